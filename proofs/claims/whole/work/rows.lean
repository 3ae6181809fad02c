section
-- ===== PART A: goes FIRST, ahead of the names: the tables' words, and 'selects' of the private methods out of them =====
/-- a private method of a class that the tables say can be made, by its rows of tables_1 -/
def lw_okq (q : MethodName × Nat) : Prop := (q.1.cls ≠ "java/lang/invoke/MethodHandle" ∧ q.1.cls ≠ "java/lang/invoke/VarHandle") ∧ Cond.instantiable q.1.cls q.2 ∈ tables_1 ∧ Cond.privateMethod q.1 ∈ tables_1 ∧ Cond.instanceMethod q.1 ∈ tables_1
theorem lw_p0 : lw_okq (⟨"InterleavedLink", "upEndOf", "(I)LInterleavedLink$End;"⟩, 1) := ⟨⟨by decide +kernel, by decide +kernel⟩, List.mem_of_getElem? (i := 18) (by decide +kernel), List.mem_of_getElem? (i := 307) (by decide +kernel), List.mem_of_getElem? (i := 308) (by decide +kernel)⟩
theorem lw_p1 : lw_okq (⟨"InterleavedLink", "endOf", "(I)LInterleavedLink$End;"⟩, 1) := ⟨⟨by decide +kernel, by decide +kernel⟩, List.mem_of_getElem? (i := 18) (by decide +kernel), List.mem_of_getElem? (i := 311) (by decide +kernel), List.mem_of_getElem? (i := 312) (by decide +kernel)⟩
theorem lw_p2 : lw_okq (⟨"InterleavedLink$End", "activeCount", "()I"⟩, 17) := ⟨⟨by decide +kernel, by decide +kernel⟩, List.mem_of_getElem? (i := 46) (by decide +kernel), List.mem_of_getElem? (i := 330) (by decide +kernel), List.mem_of_getElem? (i := 331) (by decide +kernel)⟩
theorem lw_p3 : lw_okq (⟨"InterleavedLink$Encoder", "encodeMaximum", "(LInterleavedLink$Block;I)V"⟩, 4) := ⟨⟨by decide +kernel, by decide +kernel⟩, List.mem_of_getElem? (i := 81) (by decide +kernel), List.mem_of_getElem? (i := 395) (by decide +kernel), List.mem_of_getElem? (i := 396) (by decide +kernel)⟩
theorem lw_p4 : lw_okq (⟨"InterleavedLink$Table", "dropDownTo", "(I)V"⟩, 6) := ⟨⟨by decide +kernel, by decide +kernel⟩, List.mem_of_getElem? (i := 87) (by decide +kernel), List.mem_of_getElem? (i := 407) (by decide +kernel), List.mem_of_getElem? (i := 408) (by decide +kernel)⟩
theorem lw_p5 : lw_okq (⟨"InterleavedLink$Encoder", "encodeField", "(LInterleavedLink$Block;IIZ)V"⟩, 4) := ⟨⟨by decide +kernel, by decide +kernel⟩, List.mem_of_getElem? (i := 81) (by decide +kernel), List.mem_of_getElem? (i := 411) (by decide +kernel), List.mem_of_getElem? (i := 412) (by decide +kernel)⟩
theorem lw_p6 : lw_okq (⟨"InterleavedLink$End", "nextSender", "()I"⟩, 17) := ⟨⟨by decide +kernel, by decide +kernel⟩, List.mem_of_getElem? (i := 46) (by decide +kernel), List.mem_of_getElem? (i := 524) (by decide +kernel), List.mem_of_getElem? (i := 525) (by decide +kernel)⟩
theorem lw_p7 : lw_okq (⟨"InterleavedLink$End", "canSend", "(LInterleavedLink$Stream;)Z"⟩, 17) := ⟨⟨by decide +kernel, by decide +kernel⟩, List.mem_of_getElem? (i := 46) (by decide +kernel), List.mem_of_getElem? (i := 528) (by decide +kernel), List.mem_of_getElem? (i := 529) (by decide +kernel)⟩
theorem lw_p8 : lw_okq (⟨"InterleavedLink$End", "sendData", "(LInterleavedLink$Stream;)V"⟩, 17) := ⟨⟨by decide +kernel, by decide +kernel⟩, List.mem_of_getElem? (i := 46) (by decide +kernel), List.mem_of_getElem? (i := 533) (by decide +kernel), List.mem_of_getElem? (i := 534) (by decide +kernel)⟩
theorem lw_p9 : lw_okq (⟨"InterleavedLink$End", "giveBack", "(I)V"⟩, 17) := ⟨⟨by decide +kernel, by decide +kernel⟩, List.mem_of_getElem? (i := 46) (by decide +kernel), List.mem_of_getElem? (i := 576) (by decide +kernel), List.mem_of_getElem? (i := 577) (by decide +kernel)⟩
theorem lw_p10 : lw_okq (⟨"InterleavedLink$End", "getData", "(LInterleavedLink$Frame;)I"⟩, 17) := ⟨⟨by decide +kernel, by decide +kernel⟩, List.mem_of_getElem? (i := 46) (by decide +kernel), List.mem_of_getElem? (i := 641) (by decide +kernel), List.mem_of_getElem? (i := 642) (by decide +kernel)⟩
theorem lw_p11 : lw_okq (⟨"InterleavedLink$End", "linkError", "(I)I"⟩, 17) := ⟨⟨by decide +kernel, by decide +kernel⟩, List.mem_of_getElem? (i := 46) (by decide +kernel), List.mem_of_getElem? (i := 645) (by decide +kernel), List.mem_of_getElem? (i := 646) (by decide +kernel)⟩
theorem lw_p12 : lw_okq (⟨"InterleavedLink$End", "getHeaders", "(LInterleavedLink$Frame;)I"⟩, 17) := ⟨⟨by decide +kernel, by decide +kernel⟩, List.mem_of_getElem? (i := 46) (by decide +kernel), List.mem_of_getElem? (i := 661) (by decide +kernel), List.mem_of_getElem? (i := 662) (by decide +kernel)⟩
theorem lw_p13 : lw_okq (⟨"InterleavedLink$Decoder", "decodeField", "(LInterleavedLink$Block;ILInterleavedLink$FieldList;)Z"⟩, 2) := ⟨⟨by decide +kernel, by decide +kernel⟩, List.mem_of_getElem? (i := 131) (by decide +kernel), List.mem_of_getElem? (i := 672) (by decide +kernel), List.mem_of_getElem? (i := 673) (by decide +kernel)⟩
theorem lw_p14 : lw_okq (⟨"InterleavedLink$End", "getRequest", "(LInterleavedLink$Stream;LInterleavedLink$FieldList;Z)I"⟩, 17) := ⟨⟨by decide +kernel, by decide +kernel⟩, List.mem_of_getElem? (i := 46) (by decide +kernel), List.mem_of_getElem? (i := 681) (by decide +kernel), List.mem_of_getElem? (i := 682) (by decide +kernel)⟩
theorem lw_p15 : lw_okq (⟨"InterleavedLink$End", "closeIdleBelow", "(I)V"⟩, 17) := ⟨⟨by decide +kernel, by decide +kernel⟩, List.mem_of_getElem? (i := 46) (by decide +kernel), List.mem_of_getElem? (i := 685) (by decide +kernel), List.mem_of_getElem? (i := 686) (by decide +kernel)⟩
def lw_privs_1 : List (MethodName × Nat) := [(⟨"InterleavedLink", "upEndOf", "(I)LInterleavedLink$End;"⟩, 1), (⟨"InterleavedLink", "endOf", "(I)LInterleavedLink$End;"⟩, 1), (⟨"InterleavedLink$End", "activeCount", "()I"⟩, 17), (⟨"InterleavedLink$Encoder", "encodeMaximum", "(LInterleavedLink$Block;I)V"⟩, 4), (⟨"InterleavedLink$Table", "dropDownTo", "(I)V"⟩, 6), (⟨"InterleavedLink$Encoder", "encodeField", "(LInterleavedLink$Block;IIZ)V"⟩, 4), (⟨"InterleavedLink$End", "nextSender", "()I"⟩, 17), (⟨"InterleavedLink$End", "canSend", "(LInterleavedLink$Stream;)Z"⟩, 17), (⟨"InterleavedLink$End", "sendData", "(LInterleavedLink$Stream;)V"⟩, 17), (⟨"InterleavedLink$End", "giveBack", "(I)V"⟩, 17), (⟨"InterleavedLink$End", "getData", "(LInterleavedLink$Frame;)I"⟩, 17), (⟨"InterleavedLink$End", "linkError", "(I)I"⟩, 17), (⟨"InterleavedLink$End", "getHeaders", "(LInterleavedLink$Frame;)I"⟩, 17), (⟨"InterleavedLink$Decoder", "decodeField", "(LInterleavedLink$Block;ILInterleavedLink$FieldList;)Z"⟩, 2), (⟨"InterleavedLink$End", "getRequest", "(LInterleavedLink$Stream;LInterleavedLink$FieldList;Z)I"⟩, 17), (⟨"InterleavedLink$End", "closeIdleBelow", "(I)V"⟩, 17)]
theorem lw_r1 : ∀ q ∈ lw_privs_1, lw_okq q := List.forall_mem_cons.mpr ⟨lw_p0, List.forall_mem_cons.mpr ⟨lw_p1, List.forall_mem_cons.mpr ⟨lw_p2, List.forall_mem_cons.mpr ⟨lw_p3, List.forall_mem_cons.mpr ⟨lw_p4, List.forall_mem_cons.mpr ⟨lw_p5, List.forall_mem_cons.mpr ⟨lw_p6, List.forall_mem_cons.mpr ⟨lw_p7, List.forall_mem_cons.mpr ⟨lw_p8, List.forall_mem_cons.mpr ⟨lw_p9, List.forall_mem_cons.mpr ⟨lw_p10, List.forall_mem_cons.mpr ⟨lw_p11, List.forall_mem_cons.mpr ⟨lw_p12, List.forall_mem_cons.mpr ⟨lw_p13, List.forall_mem_cons.mpr ⟨lw_p14, List.forall_mem_cons.mpr ⟨lw_p15, fun _ h => absurd h List.not_mem_nil⟩⟩⟩⟩⟩⟩⟩⟩⟩⟩⟩⟩⟩⟩⟩⟩
theorem lw_p16 : lw_okq (⟨"InterleavedLink$End", "takeList", "(LInterleavedLink$Stream;LInterleavedLink$FieldList;Z)V"⟩, 17) := ⟨⟨by decide +kernel, by decide +kernel⟩, List.mem_of_getElem? (i := 46) (by decide +kernel), List.mem_of_getElem? (i := 689) (by decide +kernel), List.mem_of_getElem? (i := 690) (by decide +kernel)⟩
theorem lw_p17 : lw_okq (⟨"InterleavedLink$End", "getReset", "(LInterleavedLink$Frame;)I"⟩, 17) := ⟨⟨by decide +kernel, by decide +kernel⟩, List.mem_of_getElem? (i := 46) (by decide +kernel), List.mem_of_getElem? (i := 693) (by decide +kernel), List.mem_of_getElem? (i := 694) (by decide +kernel)⟩
theorem lw_p18 : lw_okq (⟨"InterleavedLink$End", "getAck", "()I"⟩, 17) := ⟨⟨by decide +kernel, by decide +kernel⟩, List.mem_of_getElem? (i := 46) (by decide +kernel), List.mem_of_getElem? (i := 697) (by decide +kernel), List.mem_of_getElem? (i := 698) (by decide +kernel)⟩
theorem lw_p19 : lw_okq (⟨"InterleavedLink$End", "putInForce", "(II)V"⟩, 17) := ⟨⟨by decide +kernel, by decide +kernel⟩, List.mem_of_getElem? (i := 46) (by decide +kernel), List.mem_of_getElem? (i := 701) (by decide +kernel), List.mem_of_getElem? (i := 702) (by decide +kernel)⟩
theorem lw_p20 : lw_okq (⟨"InterleavedLink$End", "moveReceiveWindows", "(I)V"⟩, 17) := ⟨⟨by decide +kernel, by decide +kernel⟩, List.mem_of_getElem? (i := 46) (by decide +kernel), List.mem_of_getElem? (i := 709) (by decide +kernel), List.mem_of_getElem? (i := 710) (by decide +kernel)⟩
theorem lw_p21 : lw_okq (⟨"InterleavedLink$End", "getSetting", "(II)I"⟩, 17) := ⟨⟨by decide +kernel, by decide +kernel⟩, List.mem_of_getElem? (i := 46) (by decide +kernel), List.mem_of_getElem? (i := 713) (by decide +kernel), List.mem_of_getElem? (i := 714) (by decide +kernel)⟩
theorem lw_p22 : lw_okq (⟨"InterleavedLink$End", "hearSetting", "(II)V"⟩, 17) := ⟨⟨by decide +kernel, by decide +kernel⟩, List.mem_of_getElem? (i := 46) (by decide +kernel), List.mem_of_getElem? (i := 718) (by decide +kernel), List.mem_of_getElem? (i := 719) (by decide +kernel)⟩
theorem lw_p23 : lw_okq (⟨"InterleavedLink$End", "moveSendWindows", "(I)V"⟩, 17) := ⟨⟨by decide +kernel, by decide +kernel⟩, List.mem_of_getElem? (i := 46) (by decide +kernel), List.mem_of_getElem? (i := 727) (by decide +kernel), List.mem_of_getElem? (i := 728) (by decide +kernel)⟩
theorem lw_p24 : lw_okq (⟨"InterleavedLink$End", "getLinkWindow", "(I)I"⟩, 17) := ⟨⟨by decide +kernel, by decide +kernel⟩, List.mem_of_getElem? (i := 46) (by decide +kernel), List.mem_of_getElem? (i := 734) (by decide +kernel), List.mem_of_getElem? (i := 735) (by decide +kernel)⟩
theorem lw_p25 : lw_okq (⟨"InterleavedLink$End", "getStreamWindow", "(LInterleavedLink$Frame;)I"⟩, 17) := ⟨⟨by decide +kernel, by decide +kernel⟩, List.mem_of_getElem? (i := 46) (by decide +kernel), List.mem_of_getElem? (i := 738) (by decide +kernel), List.mem_of_getElem? (i := 739) (by decide +kernel)⟩
theorem lw_p26 : lw_okq (⟨"InterleavedLinkModel", "getData", "(II)I"⟩, 56) := ⟨⟨by decide +kernel, by decide +kernel⟩, List.mem_of_getElem? (i := 793) (by decide +kernel), List.mem_of_getElem? (i := 976) (by decide +kernel), List.mem_of_getElem? (i := 977) (by decide +kernel)⟩
theorem lw_p27 : lw_okq (⟨"InterleavedLinkModel", "linkError", "(II)I"⟩, 56) := ⟨⟨by decide +kernel, by decide +kernel⟩, List.mem_of_getElem? (i := 793) (by decide +kernel), List.mem_of_getElem? (i := 986) (by decide +kernel), List.mem_of_getElem? (i := 987) (by decide +kernel)⟩
theorem lw_p28 : lw_okq (⟨"InterleavedLinkModel", "push", "(IIIIZ)I"⟩, 56) := ⟨⟨by decide +kernel, by decide +kernel⟩, List.mem_of_getElem? (i := 793) (by decide +kernel), List.mem_of_getElem? (i := 990) (by decide +kernel), List.mem_of_getElem? (i := 991) (by decide +kernel)⟩
theorem lw_p29 : lw_okq (⟨"InterleavedLinkModel", "linkReceive", "(I)I"⟩, 56) := ⟨⟨by decide +kernel, by decide +kernel⟩, List.mem_of_getElem? (i := 793) (by decide +kernel), List.mem_of_getElem? (i := 994) (by decide +kernel), List.mem_of_getElem? (i := 995) (by decide +kernel)⟩
theorem lw_p30 : lw_okq (⟨"InterleavedLinkModel", "giveBack", "(II)V"⟩, 56) := ⟨⟨by decide +kernel, by decide +kernel⟩, List.mem_of_getElem? (i := 793) (by decide +kernel), List.mem_of_getElem? (i := 998) (by decide +kernel), List.mem_of_getElem? (i := 999) (by decide +kernel)⟩
theorem lw_p31 : lw_okq (⟨"InterleavedLinkModel", "streamError", "(IIII)I"⟩, 56) := ⟨⟨by decide +kernel, by decide +kernel⟩, List.mem_of_getElem? (i := 793) (by decide +kernel), List.mem_of_getElem? (i := 1002) (by decide +kernel), List.mem_of_getElem? (i := 1003) (by decide +kernel)⟩
def lw_privs_2 : List (MethodName × Nat) := [(⟨"InterleavedLink$End", "takeList", "(LInterleavedLink$Stream;LInterleavedLink$FieldList;Z)V"⟩, 17), (⟨"InterleavedLink$End", "getReset", "(LInterleavedLink$Frame;)I"⟩, 17), (⟨"InterleavedLink$End", "getAck", "()I"⟩, 17), (⟨"InterleavedLink$End", "putInForce", "(II)V"⟩, 17), (⟨"InterleavedLink$End", "moveReceiveWindows", "(I)V"⟩, 17), (⟨"InterleavedLink$End", "getSetting", "(II)I"⟩, 17), (⟨"InterleavedLink$End", "hearSetting", "(II)V"⟩, 17), (⟨"InterleavedLink$End", "moveSendWindows", "(I)V"⟩, 17), (⟨"InterleavedLink$End", "getLinkWindow", "(I)I"⟩, 17), (⟨"InterleavedLink$End", "getStreamWindow", "(LInterleavedLink$Frame;)I"⟩, 17), (⟨"InterleavedLinkModel", "getData", "(II)I"⟩, 56), (⟨"InterleavedLinkModel", "linkError", "(II)I"⟩, 56), (⟨"InterleavedLinkModel", "push", "(IIIIZ)I"⟩, 56), (⟨"InterleavedLinkModel", "linkReceive", "(I)I"⟩, 56), (⟨"InterleavedLinkModel", "giveBack", "(II)V"⟩, 56), (⟨"InterleavedLinkModel", "streamError", "(IIII)I"⟩, 56)]
theorem lw_r2 : ∀ q ∈ lw_privs_2, lw_okq q := List.forall_mem_cons.mpr ⟨lw_p16, List.forall_mem_cons.mpr ⟨lw_p17, List.forall_mem_cons.mpr ⟨lw_p18, List.forall_mem_cons.mpr ⟨lw_p19, List.forall_mem_cons.mpr ⟨lw_p20, List.forall_mem_cons.mpr ⟨lw_p21, List.forall_mem_cons.mpr ⟨lw_p22, List.forall_mem_cons.mpr ⟨lw_p23, List.forall_mem_cons.mpr ⟨lw_p24, List.forall_mem_cons.mpr ⟨lw_p25, List.forall_mem_cons.mpr ⟨lw_p26, List.forall_mem_cons.mpr ⟨lw_p27, List.forall_mem_cons.mpr ⟨lw_p28, List.forall_mem_cons.mpr ⟨lw_p29, List.forall_mem_cons.mpr ⟨lw_p30, List.forall_mem_cons.mpr ⟨lw_p31, fun _ h => absurd h List.not_mem_nil⟩⟩⟩⟩⟩⟩⟩⟩⟩⟩⟩⟩⟩⟩⟩⟩
theorem lw_p32 : lw_okq (⟨"InterleavedLinkModel", "sever", "(II)I"⟩, 56) := ⟨⟨by decide +kernel, by decide +kernel⟩, List.mem_of_getElem? (i := 793) (by decide +kernel), List.mem_of_getElem? (i := 1006) (by decide +kernel), List.mem_of_getElem? (i := 1007) (by decide +kernel)⟩
theorem lw_p33 : lw_okq (⟨"InterleavedLinkModel", "drop", "(III)I"⟩, 56) := ⟨⟨by decide +kernel, by decide +kernel⟩, List.mem_of_getElem? (i := 793) (by decide +kernel), List.mem_of_getElem? (i := 1010) (by decide +kernel), List.mem_of_getElem? (i := 1011) (by decide +kernel)⟩
theorem lw_p34 : lw_okq (⟨"InterleavedLinkModel", "receiveWindow", "(I)I"⟩, 56) := ⟨⟨by decide +kernel, by decide +kernel⟩, List.mem_of_getElem? (i := 793) (by decide +kernel), List.mem_of_getElem? (i := 1014) (by decide +kernel), List.mem_of_getElem? (i := 1015) (by decide +kernel)⟩
theorem lw_p35 : lw_okq (⟨"InterleavedLinkModel", "getHeaders", "(II)I"⟩, 56) := ⟨⟨by decide +kernel, by decide +kernel⟩, List.mem_of_getElem? (i := 793) (by decide +kernel), List.mem_of_getElem? (i := 1018) (by decide +kernel), List.mem_of_getElem? (i := 1019) (by decide +kernel)⟩
theorem lw_p36 : lw_okq (⟨"InterleavedLinkModel", "getBlock", "(II)Z"⟩, 56) := ⟨⟨by decide +kernel, by decide +kernel⟩, List.mem_of_getElem? (i := 793) (by decide +kernel), List.mem_of_getElem? (i := 1022) (by decide +kernel), List.mem_of_getElem? (i := 1023) (by decide +kernel)⟩
theorem lw_p37 : lw_okq (⟨"InterleavedLinkModel", "does", "(IIZZ)Z"⟩, 56) := ⟨⟨by decide +kernel, by decide +kernel⟩, List.mem_of_getElem? (i := 793) (by decide +kernel), List.mem_of_getElem? (i := 1026) (by decide +kernel), List.mem_of_getElem? (i := 1027) (by decide +kernel)⟩
theorem lw_p38 : lw_okq (⟨"InterleavedLinkModel", "bound", "(II)V"⟩, 56) := ⟨⟨by decide +kernel, by decide +kernel⟩, List.mem_of_getElem? (i := 793) (by decide +kernel), List.mem_of_getElem? (i := 1030) (by decide +kernel), List.mem_of_getElem? (i := 1031) (by decide +kernel)⟩
theorem lw_p39 : lw_okq (⟨"InterleavedLinkModel", "sum", "(I)I"⟩, 56) := ⟨⟨by decide +kernel, by decide +kernel⟩, List.mem_of_getElem? (i := 793) (by decide +kernel), List.mem_of_getElem? (i := 1034) (by decide +kernel), List.mem_of_getElem? (i := 1035) (by decide +kernel)⟩
theorem lw_p40 : lw_okq (⟨"InterleavedLinkModel", "means", "(II)Z"⟩, 56) := ⟨⟨by decide +kernel, by decide +kernel⟩, List.mem_of_getElem? (i := 793) (by decide +kernel), List.mem_of_getElem? (i := 1043) (by decide +kernel), List.mem_of_getElem? (i := 1044) (by decide +kernel)⟩
theorem lw_p41 : lw_okq (⟨"InterleavedLinkModel", "nameAt", "(II)I"⟩, 56) := ⟨⟨by decide +kernel, by decide +kernel⟩, List.mem_of_getElem? (i := 793) (by decide +kernel), List.mem_of_getElem? (i := 1047) (by decide +kernel), List.mem_of_getElem? (i := 1048) (by decide +kernel)⟩
theorem lw_p42 : lw_okq (⟨"InterleavedLinkModel", "valueAt", "(II)I"⟩, 56) := ⟨⟨by decide +kernel, by decide +kernel⟩, List.mem_of_getElem? (i := 793) (by decide +kernel), List.mem_of_getElem? (i := 1051) (by decide +kernel), List.mem_of_getElem? (i := 1052) (by decide +kernel)⟩
theorem lw_p43 : lw_okq (⟨"InterleavedLinkModel", "add", "(III)V"⟩, 56) := ⟨⟨by decide +kernel, by decide +kernel⟩, List.mem_of_getElem? (i := 793) (by decide +kernel), List.mem_of_getElem? (i := 1055) (by decide +kernel), List.mem_of_getElem? (i := 1056) (by decide +kernel)⟩
theorem lw_p44 : lw_okq (⟨"InterleavedLinkModel", "getNew", "(IIZ)I"⟩, 56) := ⟨⟨by decide +kernel, by decide +kernel⟩, List.mem_of_getElem? (i := 793) (by decide +kernel), List.mem_of_getElem? (i := 1059) (by decide +kernel), List.mem_of_getElem? (i := 1060) (by decide +kernel)⟩
theorem lw_p45 : lw_okq (⟨"InterleavedLinkModel", "activeAt", "(I)I"⟩, 56) := ⟨⟨by decide +kernel, by decide +kernel⟩, List.mem_of_getElem? (i := 793) (by decide +kernel), List.mem_of_getElem? (i := 1063) (by decide +kernel), List.mem_of_getElem? (i := 1064) (by decide +kernel)⟩
theorem lw_p46 : lw_okq (⟨"InterleavedLinkModel", "active", "(I)Z"⟩, 56) := ⟨⟨by decide +kernel, by decide +kernel⟩, List.mem_of_getElem? (i := 793) (by decide +kernel), List.mem_of_getElem? (i := 1067) (by decide +kernel), List.mem_of_getElem? (i := 1068) (by decide +kernel)⟩
theorem lw_p47 : lw_okq (⟨"InterleavedLinkModel", "stateAt", "(I)I"⟩, 56) := ⟨⟨by decide +kernel, by decide +kernel⟩, List.mem_of_getElem? (i := 793) (by decide +kernel), List.mem_of_getElem? (i := 1071) (by decide +kernel), List.mem_of_getElem? (i := 1072) (by decide +kernel)⟩
def lw_privs_3 : List (MethodName × Nat) := [(⟨"InterleavedLinkModel", "sever", "(II)I"⟩, 56), (⟨"InterleavedLinkModel", "drop", "(III)I"⟩, 56), (⟨"InterleavedLinkModel", "receiveWindow", "(I)I"⟩, 56), (⟨"InterleavedLinkModel", "getHeaders", "(II)I"⟩, 56), (⟨"InterleavedLinkModel", "getBlock", "(II)Z"⟩, 56), (⟨"InterleavedLinkModel", "does", "(IIZZ)Z"⟩, 56), (⟨"InterleavedLinkModel", "bound", "(II)V"⟩, 56), (⟨"InterleavedLinkModel", "sum", "(I)I"⟩, 56), (⟨"InterleavedLinkModel", "means", "(II)Z"⟩, 56), (⟨"InterleavedLinkModel", "nameAt", "(II)I"⟩, 56), (⟨"InterleavedLinkModel", "valueAt", "(II)I"⟩, 56), (⟨"InterleavedLinkModel", "add", "(III)V"⟩, 56), (⟨"InterleavedLinkModel", "getNew", "(IIZ)I"⟩, 56), (⟨"InterleavedLinkModel", "activeAt", "(I)I"⟩, 56), (⟨"InterleavedLinkModel", "active", "(I)Z"⟩, 56), (⟨"InterleavedLinkModel", "stateAt", "(I)I"⟩, 56)]
theorem lw_r3 : ∀ q ∈ lw_privs_3, lw_okq q := List.forall_mem_cons.mpr ⟨lw_p32, List.forall_mem_cons.mpr ⟨lw_p33, List.forall_mem_cons.mpr ⟨lw_p34, List.forall_mem_cons.mpr ⟨lw_p35, List.forall_mem_cons.mpr ⟨lw_p36, List.forall_mem_cons.mpr ⟨lw_p37, List.forall_mem_cons.mpr ⟨lw_p38, List.forall_mem_cons.mpr ⟨lw_p39, List.forall_mem_cons.mpr ⟨lw_p40, List.forall_mem_cons.mpr ⟨lw_p41, List.forall_mem_cons.mpr ⟨lw_p42, List.forall_mem_cons.mpr ⟨lw_p43, List.forall_mem_cons.mpr ⟨lw_p44, List.forall_mem_cons.mpr ⟨lw_p45, List.forall_mem_cons.mpr ⟨lw_p46, List.forall_mem_cons.mpr ⟨lw_p47, fun _ h => absurd h List.not_mem_nil⟩⟩⟩⟩⟩⟩⟩⟩⟩⟩⟩⟩⟩⟩⟩⟩
theorem lw_p48 : lw_okq (⟨"InterleavedLinkModel", "keepList", "(I)V"⟩, 56) := ⟨⟨by decide +kernel, by decide +kernel⟩, List.mem_of_getElem? (i := 793) (by decide +kernel), List.mem_of_getElem? (i := 1075) (by decide +kernel), List.mem_of_getElem? (i := 1076) (by decide +kernel)⟩
theorem lw_p49 : lw_okq (⟨"InterleavedLinkModel", "getReset", "(II)I"⟩, 56) := ⟨⟨by decide +kernel, by decide +kernel⟩, List.mem_of_getElem? (i := 793) (by decide +kernel), List.mem_of_getElem? (i := 1079) (by decide +kernel), List.mem_of_getElem? (i := 1080) (by decide +kernel)⟩
theorem lw_p50 : lw_okq (⟨"InterleavedLinkModel", "getAck", "(I)I"⟩, 56) := ⟨⟨by decide +kernel, by decide +kernel⟩, List.mem_of_getElem? (i := 793) (by decide +kernel), List.mem_of_getElem? (i := 1083) (by decide +kernel), List.mem_of_getElem? (i := 1084) (by decide +kernel)⟩
theorem lw_p51 : lw_okq (⟨"InterleavedLinkModel", "getSetting", "(III)I"⟩, 56) := ⟨⟨by decide +kernel, by decide +kernel⟩, List.mem_of_getElem? (i := 793) (by decide +kernel), List.mem_of_getElem? (i := 1090) (by decide +kernel), List.mem_of_getElem? (i := 1091) (by decide +kernel)⟩
theorem lw_p52 : lw_okq (⟨"InterleavedLinkModel", "getWindow", "(III)I"⟩, 56) := ⟨⟨by decide +kernel, by decide +kernel⟩, List.mem_of_getElem? (i := 793) (by decide +kernel), List.mem_of_getElem? (i := 1100) (by decide +kernel), List.mem_of_getElem? (i := 1101) (by decide +kernel)⟩
theorem lw_p53 : lw_okq (⟨"InterleavedLinkModel", "linkSend", "(I)I"⟩, 56) := ⟨⟨by decide +kernel, by decide +kernel⟩, List.mem_of_getElem? (i := 793) (by decide +kernel), List.mem_of_getElem? (i := 1104) (by decide +kernel), List.mem_of_getElem? (i := 1105) (by decide +kernel)⟩
theorem lw_p54 : lw_okq (⟨"InterleavedLinkModel", "sendWindow", "(I)I"⟩, 56) := ⟨⟨by decide +kernel, by decide +kernel⟩, List.mem_of_getElem? (i := 793) (by decide +kernel), List.mem_of_getElem? (i := 1108) (by decide +kernel), List.mem_of_getElem? (i := 1109) (by decide +kernel)⟩
theorem lw_p55 : lw_okq (⟨"InterleavedLinkModel", "up", "(I)Z"⟩, 56) := ⟨⟨by decide +kernel, by decide +kernel⟩, List.mem_of_getElem? (i := 793) (by decide +kernel), List.mem_of_getElem? (i := 1116) (by decide +kernel), List.mem_of_getElem? (i := 1117) (by decide +kernel)⟩
theorem lw_p56 : lw_okq (⟨"InterleavedLinkModel", "full", "(I)Z"⟩, 56) := ⟨⟨by decide +kernel, by decide +kernel⟩, List.mem_of_getElem? (i := 793) (by decide +kernel), List.mem_of_getElem? (i := 1124) (by decide +kernel), List.mem_of_getElem? (i := 1125) (by decide +kernel)⟩
theorem lw_p57 : lw_okq (⟨"InterleavedLinkModel", "sendList", "(IIZ)V"⟩, 56) := ⟨⟨by decide +kernel, by decide +kernel⟩, List.mem_of_getElem? (i := 793) (by decide +kernel), List.mem_of_getElem? (i := 1128) (by decide +kernel), List.mem_of_getElem? (i := 1129) (by decide +kernel)⟩
theorem lw_p58 : lw_okq (⟨"InterleavedLinkModel", "step", "(IIIII)V"⟩, 56) := ⟨⟨by decide +kernel, by decide +kernel⟩, List.mem_of_getElem? (i := 793) (by decide +kernel), List.mem_of_getElem? (i := 1132) (by decide +kernel), List.mem_of_getElem? (i := 1133) (by decide +kernel)⟩
theorem lw_p59 : lw_okq (⟨"InterleavedLinkModel", "indexOf", "(IIIZ)I"⟩, 56) := ⟨⟨by decide +kernel, by decide +kernel⟩, List.mem_of_getElem? (i := 793) (by decide +kernel), List.mem_of_getElem? (i := 1136) (by decide +kernel), List.mem_of_getElem? (i := 1137) (by decide +kernel)⟩
theorem lw_p60 : lw_okq (⟨"InterleavedLinkModel", "can", "(II)Z"⟩, 56) := ⟨⟨by decide +kernel, by decide +kernel⟩, List.mem_of_getElem? (i := 793) (by decide +kernel), List.mem_of_getElem? (i := 1152) (by decide +kernel), List.mem_of_getElem? (i := 1153) (by decide +kernel)⟩
theorem lw_p61 : lw_okq (⟨"InterleavedLinkModel", "sendData", "(II)V"⟩, 56) := ⟨⟨by decide +kernel, by decide +kernel⟩, List.mem_of_getElem? (i := 793) (by decide +kernel), List.mem_of_getElem? (i := 1156) (by decide +kernel), List.mem_of_getElem? (i := 1157) (by decide +kernel)⟩
theorem lw_p62 : lw_okq (⟨"InterleavedLinkModel", "unreadOf", "(II)I"⟩, 56) := ⟨⟨by decide +kernel, by decide +kernel⟩, List.mem_of_getElem? (i := 793) (by decide +kernel), List.mem_of_getElem? (i := 1194) (by decide +kernel), List.mem_of_getElem? (i := 1195) (by decide +kernel)⟩
def lw_privs_4 : List (MethodName × Nat) := [(⟨"InterleavedLinkModel", "keepList", "(I)V"⟩, 56), (⟨"InterleavedLinkModel", "getReset", "(II)I"⟩, 56), (⟨"InterleavedLinkModel", "getAck", "(I)I"⟩, 56), (⟨"InterleavedLinkModel", "getSetting", "(III)I"⟩, 56), (⟨"InterleavedLinkModel", "getWindow", "(III)I"⟩, 56), (⟨"InterleavedLinkModel", "linkSend", "(I)I"⟩, 56), (⟨"InterleavedLinkModel", "sendWindow", "(I)I"⟩, 56), (⟨"InterleavedLinkModel", "up", "(I)Z"⟩, 56), (⟨"InterleavedLinkModel", "full", "(I)Z"⟩, 56), (⟨"InterleavedLinkModel", "sendList", "(IIZ)V"⟩, 56), (⟨"InterleavedLinkModel", "step", "(IIIII)V"⟩, 56), (⟨"InterleavedLinkModel", "indexOf", "(IIIZ)I"⟩, 56), (⟨"InterleavedLinkModel", "can", "(II)Z"⟩, 56), (⟨"InterleavedLinkModel", "sendData", "(II)V"⟩, 56), (⟨"InterleavedLinkModel", "unreadOf", "(II)I"⟩, 56)]
theorem lw_r4 : ∀ q ∈ lw_privs_4, lw_okq q := List.forall_mem_cons.mpr ⟨lw_p48, List.forall_mem_cons.mpr ⟨lw_p49, List.forall_mem_cons.mpr ⟨lw_p50, List.forall_mem_cons.mpr ⟨lw_p51, List.forall_mem_cons.mpr ⟨lw_p52, List.forall_mem_cons.mpr ⟨lw_p53, List.forall_mem_cons.mpr ⟨lw_p54, List.forall_mem_cons.mpr ⟨lw_p55, List.forall_mem_cons.mpr ⟨lw_p56, List.forall_mem_cons.mpr ⟨lw_p57, List.forall_mem_cons.mpr ⟨lw_p58, List.forall_mem_cons.mpr ⟨lw_p59, List.forall_mem_cons.mpr ⟨lw_p60, List.forall_mem_cons.mpr ⟨lw_p61, List.forall_mem_cons.mpr ⟨lw_p62, fun _ h => absurd h List.not_mem_nil⟩⟩⟩⟩⟩⟩⟩⟩⟩⟩⟩⟩⟩⟩⟩
def lw_privs : List (MethodName × Nat) := lw_privs_1 ++ (lw_privs_2 ++ (lw_privs_3 ++ (lw_privs_4)))
def lw_tbl : List Cond := k2_sels lw_privs ++ tables_1
theorem lw_privs_ok : ∀ q ∈ lw_privs, lw_okq q := by
  show ∀ q ∈ lw_privs_1 ++ (lw_privs_2 ++ (lw_privs_3 ++ (lw_privs_4))), lw_okq q
  exact List.forall_mem_append.mpr ⟨lw_r1, List.forall_mem_append.mpr ⟨lw_r2, List.forall_mem_append.mpr ⟨lw_r3, lw_r4⟩⟩⟩
end
section
/-! ===== names: classes, their fields, methods; by program (wip/gennames.py) ===== -/
def T_Link : u_T := fun k => match k with
  | _ => ("InterleavedLink", "ends", "[LInterleavedLink$End;", true)
def ty_Link : Nat → FieldType := fun k => match k with
  | _ => (.array (.object "InterleavedLink$End"))
def T_Pipe : u_T := fun k => match k with
  | 0 => ("InterleavedLink$Pipe", "row", "[LInterleavedLink$Frame;", true)
  | 1 => ("InterleavedLink$Pipe", "first", "I", false)
  | _ => ("InterleavedLink$Pipe", "count", "I", false)
def ty_Pipe : Nat → FieldType := fun k => match k with
  | 0 => (.array (.object "InterleavedLink$Frame"))
  | 1 => .int
  | _ => .int
def T_End : u_T := fun k => match k with
  | 0 => ("InterleavedLink$End", "requests", "Z", true)
  | 1 => ("InterleavedLink$End", "incoming", "LInterleavedLink$Pipe;", true)
  | 2 => ("InterleavedLink$End", "outgoing", "LInterleavedLink$Pipe;", true)
  | 3 => ("InterleavedLink$End", "down", "I", false)
  | 4 => ("InterleavedLink$End", "sendWindow", "I", false)
  | 5 => ("InterleavedLink$End", "receiveWindow", "I", false)
  | 6 => ("InterleavedLink$End", "making", "LInterleavedLink$FieldList;", true)
  | 7 => ("InterleavedLink$End", "encoder", "LInterleavedLink$Encoder;", true)
  | 8 => ("InterleavedLink$End", "decoder", "LInterleavedLink$Decoder;", true)
  | 9 => ("InterleavedLink$End", "streams", "[LInterleavedLink$Stream;", true)
  | 10 => ("InterleavedLink$End", "told", "LInterleavedLink$Settings;", true)
  | 11 => ("InterleavedLink$End", "inForce", "LInterleavedLink$Settings;", true)
  | 12 => ("InterleavedLink$End", "pendingSettings", "[I", true)
  | 13 => ("InterleavedLink$End", "pendingValues", "[I", true)
  | 14 => ("InterleavedLink$End", "pendingCount", "I", false)
  | 15 => ("InterleavedLink$End", "nextToOpen", "I", false)
  | _ => ("InterleavedLink$End", "lastSender", "I", false)
def ty_End : Nat → FieldType := fun k => match k with
  | 0 => .boolean
  | 1 => (.object "InterleavedLink$Pipe")
  | 2 => (.object "InterleavedLink$Pipe")
  | 3 => .int
  | 4 => .int
  | 5 => .int
  | 6 => (.object "InterleavedLink$FieldList")
  | 7 => (.object "InterleavedLink$Encoder")
  | 8 => (.object "InterleavedLink$Decoder")
  | 9 => (.array (.object "InterleavedLink$Stream"))
  | 10 => (.object "InterleavedLink$Settings")
  | 11 => (.object "InterleavedLink$Settings")
  | 12 => (.array .int)
  | 13 => (.array .int)
  | 14 => .int
  | 15 => .int
  | _ => .int
def T_FList : u_T := fun k => match k with
  | 0 => ("InterleavedLink$FieldList", "names", "[I", true)
  | 1 => ("InterleavedLink$FieldList", "values", "[I", true)
  | 2 => ("InterleavedLink$FieldList", "secrets", "[Z", true)
  | _ => ("InterleavedLink$FieldList", "count", "I", false)
def ty_FList : Nat → FieldType := fun k => match k with
  | 0 => (.array .int)
  | 1 => (.array .int)
  | 2 => (.array .boolean)
  | _ => .int
def T_Enc : u_T := fun k => match k with
  | 0 => ("InterleavedLink$Encoder", "fields", "LInterleavedLink$Table;", true)
  | 1 => ("InterleavedLink$Encoder", "limitTold", "Z", false)
  | 2 => ("InterleavedLink$Encoder", "leastTold", "I", false)
  | _ => ("InterleavedLink$Encoder", "lastTold", "I", false)
def ty_Enc : Nat → FieldType := fun k => match k with
  | 0 => (.object "InterleavedLink$Table")
  | 1 => .boolean
  | 2 => .int
  | _ => .int
def T_Table : u_T := fun k => match k with
  | 0 => ("InterleavedLink$Table", "names", "[I", true)
  | 1 => ("InterleavedLink$Table", "values", "[I", true)
  | 2 => ("InterleavedLink$Table", "sizes", "[I", true)
  | 3 => ("InterleavedLink$Table", "count", "I", false)
  | 4 => ("InterleavedLink$Table", "sum", "I", false)
  | _ => ("InterleavedLink$Table", "maximum", "I", false)
def ty_Table : Nat → FieldType := fun k => match k with
  | 0 => (.array .int)
  | 1 => (.array .int)
  | 2 => (.array .int)
  | 3 => .int
  | 4 => .int
  | _ => .int
def T_Dec : u_T := fun k => match k with
  | 0 => ("InterleavedLink$Decoder", "fields", "LInterleavedLink$Table;", true)
  | _ => ("InterleavedLink$Decoder", "maximumDue", "Z", false)
def ty_Dec : Nat → FieldType := fun k => match k with
  | 0 => (.object "InterleavedLink$Table")
  | _ => .boolean
def T_Sett : u_T := fun k => match k with
  | 0 => ("InterleavedLink$Settings", "tableLimit", "I", false)
  | 1 => ("InterleavedLink$Settings", "mostStreams", "I", false)
  | _ => ("InterleavedLink$Settings", "firstWindow", "I", false)
def ty_Sett : Nat → FieldType := fun k => match k with
  | 0 => .int
  | 1 => .int
  | _ => .int
def T_Stream : u_T := fun k => match k with
  | 0 => ("InterleavedLink$Stream", "number", "I", true)
  | 1 => ("InterleavedLink$Stream", "state", "I", false)
  | 2 => ("InterleavedLink$Stream", "closedByCut", "Z", false)
  | 3 => ("InterleavedLink$Stream", "sendWindow", "I", false)
  | 4 => ("InterleavedLink$Stream", "receiveWindow", "I", false)
  | 5 => ("InterleavedLink$Stream", "headersSent", "Z", false)
  | 6 => ("InterleavedLink$Stream", "lastSaid", "Z", false)
  | 7 => ("InterleavedLink$Stream", "list", "LInterleavedLink$FieldList;", false)
  | 8 => ("InterleavedLink$Stream", "waiting", "LInterleavedLink$ByteQueue;", true)
  | _ => ("InterleavedLink$Stream", "unread", "LInterleavedLink$ByteQueue;", true)
def ty_Stream : Nat → FieldType := fun k => match k with
  | 0 => .int
  | 1 => .int
  | 2 => .boolean
  | 3 => .int
  | 4 => .int
  | 5 => .boolean
  | 6 => .boolean
  | 7 => (.object "InterleavedLink$FieldList")
  | 8 => (.object "InterleavedLink$ByteQueue")
  | _ => (.object "InterleavedLink$ByteQueue")
def T_BQ : u_T := fun k => match k with
  | 0 => ("InterleavedLink$ByteQueue", "row", "[B", true)
  | _ => ("InterleavedLink$ByteQueue", "count", "I", false)
def ty_BQ : Nat → FieldType := fun k => match k with
  | 0 => (.array .byte)
  | _ => .int
def T_Mod : u_T := fun k => match k with
  | 0 => ("InterleavedLinkModel", "downs", "[I", true)
  | 1 => ("InterleavedLinkModel", "head", "[I", true)
  | 2 => ("InterleavedLinkModel", "count", "[I", true)
  | 3 => ("InterleavedLinkModel", "kinds", "[I", true)
  | 4 => ("InterleavedLinkModel", "streams", "[I", true)
  | 5 => ("InterleavedLinkModel", "amounts", "[I", true)
  | 6 => ("InterleavedLinkModel", "flags", "[Z", true)
  | 7 => ("InterleavedLinkModel", "settings", "[I", true)
  | 8 => ("InterleavedLinkModel", "loads", "[J", true)
  | 9 => ("InterleavedLinkModel", "stepKind", "[I", true)
  | 10 => ("InterleavedLinkModel", "stepIndex", "[I", true)
  | 11 => ("InterleavedLinkModel", "stepName", "[I", true)
  | 12 => ("InterleavedLinkModel", "stepValue", "[I", true)
  | 13 => ("InterleavedLinkModel", "opened", "[Z", true)
  | 14 => ("InterleavedLinkModel", "cut", "[Z", true)
  | 15 => ("InterleavedLinkModel", "sentEnd", "[Z", true)
  | 16 => ("InterleavedLinkModel", "gotEnd", "[Z", true)
  | 17 => ("InterleavedLinkModel", "came", "[Z", true)
  | 18 => ("InterleavedLinkModel", "responded", "[Z", true)
  | 19 => ("InterleavedLinkModel", "lastSaid", "[Z", true)
  | 20 => ("InterleavedLinkModel", "sent", "[I", true)
  | 21 => ("InterleavedLinkModel", "credit", "[I", true)
  | 22 => ("InterleavedLinkModel", "got", "[I", true)
  | 23 => ("InterleavedLinkModel", "back", "[I", true)
  | 24 => ("InterleavedLinkModel", "fields", "[I", true)
  | 25 => ("InterleavedLinkModel", "fieldName", "[I", true)
  | 26 => ("InterleavedLinkModel", "fieldValue", "[I", true)
  | 27 => ("InterleavedLinkModel", "waits", "[I", true)
  | 28 => ("InterleavedLinkModel", "wait", "[I", true)
  | 29 => ("InterleavedLinkModel", "unread", "[I", true)
  | 30 => ("InterleavedLinkModel", "unreadStream", "[I", true)
  | 31 => ("InterleavedLinkModel", "unreadByte", "[I", true)
  | 32 => ("InterleavedLinkModel", "linkSent", "[I", true)
  | 33 => ("InterleavedLinkModel", "linkCredit", "[I", true)
  | 34 => ("InterleavedLinkModel", "lastData", "[I", true)
  | 35 => ("InterleavedLinkModel", "requests", "I", false)
  | 36 => ("InterleavedLinkModel", "force", "[I", true)
  | 37 => ("InterleavedLinkModel", "told", "[I", true)
  | 38 => ("InterleavedLinkModel", "toldSince", "[Z", true)
  | 39 => ("InterleavedLinkModel", "leastTold", "[I", true)
  | 40 => ("InterleavedLinkModel", "need", "[Z", true)
  | 41 => ("InterleavedLinkModel", "open", "[I", true)
  | 42 => ("InterleavedLinkModel", "openSetting", "[I", true)
  | 43 => ("InterleavedLinkModel", "openValue", "[I", true)
  | 44 => ("InterleavedLinkModel", "maximum", "[I", true)
  | 45 => ("InterleavedLinkModel", "size", "[I", true)
  | 46 => ("InterleavedLinkModel", "tableName", "[I", true)
  | 47 => ("InterleavedLinkModel", "tableValue", "[I", true)
  | 48 => ("InterleavedLinkModel", "making", "[I", true)
  | 49 => ("InterleavedLinkModel", "makingName", "[I", true)
  | 50 => ("InterleavedLinkModel", "makingValue", "[I", true)
  | 51 => ("InterleavedLinkModel", "makingSecret", "[Z", true)
  | 52 => ("InterleavedLinkModel", "listed", "I", false)
  | 53 => ("InterleavedLinkModel", "listName", "[I", true)
  | 54 => ("InterleavedLinkModel", "listValue", "[I", true)
  | _ => ("InterleavedLinkModel", "taken", "J", false)
def ty_Mod : Nat → FieldType := fun k => match k with
  | 0 => (.array .int)
  | 1 => (.array .int)
  | 2 => (.array .int)
  | 3 => (.array .int)
  | 4 => (.array .int)
  | 5 => (.array .int)
  | 6 => (.array .boolean)
  | 7 => (.array .int)
  | 8 => (.array .long)
  | 9 => (.array .int)
  | 10 => (.array .int)
  | 11 => (.array .int)
  | 12 => (.array .int)
  | 13 => (.array .boolean)
  | 14 => (.array .boolean)
  | 15 => (.array .boolean)
  | 16 => (.array .boolean)
  | 17 => (.array .boolean)
  | 18 => (.array .boolean)
  | 19 => (.array .boolean)
  | 20 => (.array .int)
  | 21 => (.array .int)
  | 22 => (.array .int)
  | 23 => (.array .int)
  | 24 => (.array .int)
  | 25 => (.array .int)
  | 26 => (.array .int)
  | 27 => (.array .int)
  | 28 => (.array .int)
  | 29 => (.array .int)
  | 30 => (.array .int)
  | 31 => (.array .int)
  | 32 => (.array .int)
  | 33 => (.array .int)
  | 34 => (.array .int)
  | 35 => .int
  | 36 => (.array .int)
  | 37 => (.array .int)
  | 38 => (.array .boolean)
  | 39 => (.array .int)
  | 40 => (.array .boolean)
  | 41 => (.array .int)
  | 42 => (.array .int)
  | 43 => (.array .int)
  | 44 => (.array .int)
  | 45 => (.array .int)
  | 46 => (.array .int)
  | 47 => (.array .int)
  | 48 => (.array .int)
  | 49 => (.array .int)
  | 50 => (.array .int)
  | 51 => (.array .boolean)
  | 52 => .int
  | 53 => (.array .int)
  | 54 => (.array .int)
  | _ => .long
def T_Block : u_T := fun k => match k with
  | 0 => ("InterleavedLink$Block", "kinds", "[I", true)
  | 1 => ("InterleavedLink$Block", "numbers", "[I", true)
  | 2 => ("InterleavedLink$Block", "names", "[I", true)
  | 3 => ("InterleavedLink$Block", "values", "[I", true)
  | 4 => ("InterleavedLink$Block", "count", "I", false)
  | _ => ("InterleavedLink$Block", "sum", "I", false)
def ty_Block : Nat → FieldType := fun k => match k with
  | 0 => (.array .int)
  | 1 => (.array .int)
  | 2 => (.array .int)
  | 3 => (.array .int)
  | 4 => .int
  | _ => .int
def T_Frame : u_T := fun k => match k with
  | 0 => ("InterleavedLink$Frame", "kind", "I", true)
  | 1 => ("InterleavedLink$Frame", "stream", "I", true)
  | 2 => ("InterleavedLink$Frame", "amount", "I", true)
  | 3 => ("InterleavedLink$Frame", "flag", "Z", true)
  | 4 => ("InterleavedLink$Frame", "detail", "I", true)
  | 5 => ("InterleavedLink$Frame", "payload", "[B", true)
  | _ => ("InterleavedLink$Frame", "block", "LInterleavedLink$Block;", true)
def ty_Frame : Nat → FieldType := fun k => match k with
  | 0 => .int
  | 1 => .int
  | 2 => .int
  | 3 => .boolean
  | 4 => .int
  | 5 => (.array .byte)
  | _ => (.object "InterleavedLink$Block")
def vwCl : List vw_C := [("InterleavedLink", T_Link, 1), ("InterleavedLink$Pipe", T_Pipe, 3), ("InterleavedLink$End", T_End, 17), ("InterleavedLink$FieldList", T_FList, 4), ("InterleavedLink$Encoder", T_Enc, 4), ("InterleavedLink$Table", T_Table, 6), ("InterleavedLink$Decoder", T_Dec, 2), ("InterleavedLink$Settings", T_Sett, 3), ("InterleavedLink$Stream", T_Stream, 10), ("InterleavedLink$ByteQueue", T_BQ, 2), ("InterleavedLinkModel", T_Mod, 56), ("InterleavedLink$Block", T_Block, 6), ("InterleavedLink$Frame", T_Frame, 7)]
/-- what kind of value each field is: 0 an int, 1 a long, 2 a reference -/
def fkT : List (List Nat) := [[2], [2, 0, 0], [0, 2, 2, 0, 0, 0, 2, 2, 2, 2, 2, 2, 2, 2, 0, 0, 0], [2, 2, 2, 0], [2, 0, 0, 0], [2, 2, 2, 0, 0, 0], [2, 0], [0, 0, 0], [0, 0, 0, 0, 0, 0, 0, 2, 2, 2], [2, 0], [2, 2, 2, 2, 2, 2, 2, 2, 2, 2, 2, 2, 2, 2, 2, 2, 2, 2, 2, 2, 2, 2, 2, 2, 2, 2, 2, 2, 2, 2, 2, 2, 2, 2, 2, 0, 2, 2, 2, 2, 2, 2, 2, 2, 2, 2, 2, 2, 2, 2, 2, 2, 0, 2, 2, 1], [2, 2, 2, 2, 0, 0], [0, 0, 0, 0, 0, 2, 2]]
def aoC : Nat → String := fun k => match k with
  | 4 => "InterleavedLink$Frame"
  | 5 => "InterleavedLink$Stream"
  | _ => "InterleavedLink$End"
def fixC : String := "InterleavedLink"
abbrev mU : Type := MethodName × ByteArray × Nat × Option FieldType
abbrev uLink_init : mU := (⟨"InterleavedLink", "<init>", "()V"⟩, prog_1_method_1_code, 3, none)
abbrev uLink_header : mU := (⟨"InterleavedLink", "header", "(IIIZ)I"⟩, prog_1_method_2_code, 6, some .int)
abbrev uLink_request : mU := (⟨"InterleavedLink", "request", "(Z)I"⟩, prog_1_method_3_code, 3, some .int)
abbrev uLink_respond : mU := (⟨"InterleavedLink", "respond", "(IZ)I"⟩, prog_1_method_4_code, 6, some .int)
abbrev uLink_write : mU := (⟨"InterleavedLink", "write", "(IIJIZ)I"⟩, prog_1_method_5_code, 8, some .int)
abbrev uLink_pump : mU := (⟨"InterleavedLink", "pump", "(II)I"⟩, prog_1_method_6_code, 4, some .int)
abbrev uLink_read : mU := (⟨"InterleavedLink", "read", "(III)J"⟩, prog_1_method_7_code, 6, some .long)
abbrev uLink_reset : mU := (⟨"InterleavedLink", "reset", "(III)Z"⟩, prog_1_method_8_code, 6, some .boolean)
abbrev uLink_setting : mU := (⟨"InterleavedLink", "setting", "(III)Z"⟩, prog_1_method_9_code, 5, some .boolean)
abbrev uLink_deliver : mU := (⟨"InterleavedLink", "deliver", "(I)I"⟩, prog_1_method_10_code, 5, some .int)
abbrev uLink_inject : mU := (⟨"InterleavedLink", "inject", "(IIIIZ)Z"⟩, prog_1_method_11_code, 8, some .boolean)
abbrev uLink_frame : mU := (⟨"InterleavedLink", "frame", "(III)I"⟩, prog_1_method_12_code, 6, some .int)
abbrev uLink_state : mU := (⟨"InterleavedLink", "state", "(II)I"⟩, prog_1_method_13_code, 4, some .int)
abbrev uLink_window : mU := (⟨"InterleavedLink", "window", "(IIZ)I"⟩, prog_1_method_14_code, 6, some .int)
abbrev uLink_bytes : mU := (⟨"InterleavedLink", "bytes", "(IIZ)I"⟩, prog_1_method_15_code, 5, some .int)
abbrev uLink_field : mU := (⟨"InterleavedLink", "field", "(IIIZ)I"⟩, prog_1_method_16_code, 6, some .int)
abbrev uLink_table : mU := (⟨"InterleavedLink", "table", "(IZI)I"⟩, prog_1_method_17_code, 6, some .int)
abbrev uLink_down : mU := (⟨"InterleavedLink", "down", "(I)I"⟩, prog_1_method_18_code, 3, some .int)
abbrev uLink_endOf : mU := (⟨"InterleavedLink", "endOf", "(I)LInterleavedLink$End;"⟩, prog_1_method_19_code, 2, some (.object "InterleavedLink$End"))
abbrev uLink_upEndOf : mU := (⟨"InterleavedLink", "upEndOf", "(I)LInterleavedLink$End;"⟩, prog_1_method_20_code, 3, some (.object "InterleavedLink$End"))
abbrev uLink_streamOf : mU := (⟨"InterleavedLink", "streamOf", "(LInterleavedLink$End;I)LInterleavedLink$Stream;"⟩, prog_1_method_21_code, 2, some (.object "InterleavedLink$Stream"))
abbrev uLink_isWithin : mU := (⟨"InterleavedLink", "isWithin", "(III)Z"⟩, prog_1_method_22_code, 3, some .boolean)
abbrev uLink_strangeFrame : mU := (⟨"InterleavedLink", "strangeFrame", "(IIIZ)LInterleavedLink$Frame;"⟩, prog_1_method_23_code, 6, some (.object "InterleavedLink$Frame"))
abbrev uMod_init : mU := (⟨"InterleavedLinkModel", "<init>", "()V"⟩, prog_14_method_1_code, 2, none)
abbrev uMod_isEnd : mU := (⟨"InterleavedLinkModel", "isEnd", "(I)Z"⟩, prog_14_method_2_code, 1, some .boolean)
abbrev uMod_isStream : mU := (⟨"InterleavedLinkModel", "isStream", "(I)Z"⟩, prog_14_method_3_code, 1, some .boolean)
abbrev uMod_up : mU := (⟨"InterleavedLinkModel", "up", "(I)Z"⟩, prog_14_method_4_code, 2, some .boolean)
abbrev uMod_at : mU := (⟨"InterleavedLinkModel", "at", "(II)I"⟩, prog_14_method_5_code, 2, some .int)
abbrev uMod_stateAt : mU := (⟨"InterleavedLinkModel", "stateAt", "(I)I"⟩, prog_14_method_6_code, 2, some .int)
abbrev uMod_active : mU := (⟨"InterleavedLinkModel", "active", "(I)Z"⟩, prog_14_method_7_code, 3, some .boolean)
abbrev uMod_activeAt : mU := (⟨"InterleavedLinkModel", "activeAt", "(I)I"⟩, prog_14_method_8_code, 4, some .int)
abbrev uMod_sendWindow : mU := (⟨"InterleavedLinkModel", "sendWindow", "(I)I"⟩, prog_14_method_9_code, 2, some .int)
abbrev uMod_receiveWindow : mU := (⟨"InterleavedLinkModel", "receiveWindow", "(I)I"⟩, prog_14_method_10_code, 2, some .int)
abbrev uMod_linkSend : mU := (⟨"InterleavedLinkModel", "linkSend", "(I)I"⟩, prog_14_method_11_code, 2, some .int)
abbrev uMod_linkReceive : mU := (⟨"InterleavedLinkModel", "linkReceive", "(I)I"⟩, prog_14_method_12_code, 2, some .int)
abbrev uMod_unreadOf : mU := (⟨"InterleavedLinkModel", "unreadOf", "(II)I"⟩, prog_14_method_13_code, 5, some .int)
abbrev uMod_push : mU := (⟨"InterleavedLinkModel", "push", "(IIIIZ)I"⟩, prog_14_method_14_code, 7, some .int)
abbrev uMod_full : mU := (⟨"InterleavedLinkModel", "full", "(I)Z"⟩, prog_14_method_15_code, 2, some .boolean)
abbrev uMod_giveBack : mU := (⟨"InterleavedLinkModel", "giveBack", "(II)V"⟩, prog_14_method_16_code, 3, none)
abbrev uMod_drop : mU := (⟨"InterleavedLinkModel", "drop", "(III)I"⟩, prog_14_method_17_code, 8, some .int)
abbrev uMod_sever : mU := (⟨"InterleavedLinkModel", "sever", "(II)I"⟩, prog_14_method_18_code, 3, some .int)
abbrev uMod_linkError : mU := (⟨"InterleavedLinkModel", "linkError", "(II)I"⟩, prog_14_method_19_code, 3, some .int)
abbrev uMod_streamError : mU := (⟨"InterleavedLinkModel", "streamError", "(IIII)I"⟩, prog_14_method_20_code, 6, some .int)
abbrev uMod_sizeOf : mU := (⟨"InterleavedLinkModel", "sizeOf", "(I)I"⟩, prog_14_method_21_code, 1, some .int)
abbrev uMod_sum : mU := (⟨"InterleavedLinkModel", "sum", "(I)I"⟩, prog_14_method_22_code, 4, some .int)
abbrev uMod_bound : mU := (⟨"InterleavedLinkModel", "bound", "(II)V"⟩, prog_14_method_23_code, 4, none)
abbrev uMod_add : mU := (⟨"InterleavedLinkModel", "add", "(III)V"⟩, prog_14_method_24_code, 6, none)
abbrev uMod_means : mU := (⟨"InterleavedLinkModel", "means", "(II)Z"⟩, prog_14_method_25_code, 3, some .boolean)
abbrev uMod_nameAt : mU := (⟨"InterleavedLinkModel", "nameAt", "(II)I"⟩, prog_14_method_26_code, 3, some .int)
abbrev uMod_valueAt : mU := (⟨"InterleavedLinkModel", "valueAt", "(II)I"⟩, prog_14_method_27_code, 3, some .int)
abbrev uMod_indexOf : mU := (⟨"InterleavedLinkModel", "indexOf", "(IIIZ)I"⟩, prog_14_method_28_code, 6, some .int)
abbrev uMod_step : mU := (⟨"InterleavedLinkModel", "step", "(IIIII)V"⟩, prog_14_method_29_code, 7, none)
abbrev uMod_sendList : mU := (⟨"InterleavedLinkModel", "sendList", "(IIZ)V"⟩, prog_14_method_30_code, 11, none)
abbrev uMod_does : mU := (⟨"InterleavedLinkModel", "does", "(IIZZ)Z"⟩, prog_14_method_31_code, 11, some .boolean)
abbrev uMod_getBlock : mU := (⟨"InterleavedLinkModel", "getBlock", "(II)Z"⟩, prog_14_method_32_code, 5, some .boolean)
abbrev uMod_keepList : mU := (⟨"InterleavedLinkModel", "keepList", "(I)V"⟩, prog_14_method_33_code, 3, none)
abbrev uMod_getData : mU := (⟨"InterleavedLinkModel", "getData", "(II)I"⟩, prog_14_method_34_code, 7, some .int)
abbrev uMod_getHeaders : mU := (⟨"InterleavedLinkModel", "getHeaders", "(II)I"⟩, prog_14_method_35_code, 5, some .int)
abbrev uMod_getNew : mU := (⟨"InterleavedLinkModel", "getNew", "(IIZ)I"⟩, prog_14_method_36_code, 6, some .int)
abbrev uMod_getReset : mU := (⟨"InterleavedLinkModel", "getReset", "(II)I"⟩, prog_14_method_37_code, 4, some .int)
abbrev uMod_getAck : mU := (⟨"InterleavedLinkModel", "getAck", "(I)I"⟩, prog_14_method_38_code, 5, some .int)
abbrev uMod_place : mU := (⟨"InterleavedLinkModel", "place", "(I)I"⟩, prog_14_method_39_code, 1, some .int)
abbrev uMod_highest : mU := (⟨"InterleavedLinkModel", "highest", "(I)I"⟩, prog_14_method_40_code, 1, some .int)
abbrev uMod_known : mU := (⟨"InterleavedLinkModel", "known", "(I)Z"⟩, prog_14_method_41_code, 1, some .boolean)
abbrev uMod_getSetting : mU := (⟨"InterleavedLinkModel", "getSetting", "(III)I"⟩, prog_14_method_42_code, 4, some .int)
abbrev uMod_getWindow : mU := (⟨"InterleavedLinkModel", "getWindow", "(III)I"⟩, prog_14_method_43_code, 5, some .int)
abbrev uMod_deliver : mU := (⟨"InterleavedLinkModel", "deliver", "(I)I"⟩, prog_14_method_44_code, 4, some .int)
abbrev uMod_header : mU := (⟨"InterleavedLinkModel", "header", "(IIIZ)I"⟩, prog_14_method_45_code, 6, some .int)
abbrev uMod_request : mU := (⟨"InterleavedLinkModel", "request", "(Z)I"⟩, prog_14_method_46_code, 3, some .int)
abbrev uMod_respond : mU := (⟨"InterleavedLinkModel", "respond", "(IZ)I"⟩, prog_14_method_47_code, 6, some .int)
abbrev uMod_write : mU := (⟨"InterleavedLinkModel", "write", "(IIJIZ)I"⟩, prog_14_method_48_code, 10, some .int)
abbrev uMod_can : mU := (⟨"InterleavedLinkModel", "can", "(II)Z"⟩, prog_14_method_49_code, 4, some .boolean)
abbrev uMod_sendData : mU := (⟨"InterleavedLinkModel", "sendData", "(II)V"⟩, prog_14_method_50_code, 8, none)
abbrev uMod_pump : mU := (⟨"InterleavedLinkModel", "pump", "(II)I"⟩, prog_14_method_51_code, 7, some .int)
abbrev uMod_read : mU := (⟨"InterleavedLinkModel", "read", "(III)J"⟩, prog_14_method_52_code, 7, some .long)
abbrev uMod_reset : mU := (⟨"InterleavedLinkModel", "reset", "(III)Z"⟩, prog_14_method_53_code, 4, some .boolean)
abbrev uMod_setting : mU := (⟨"InterleavedLinkModel", "setting", "(III)Z"⟩, prog_14_method_54_code, 5, some .boolean)
abbrev uMod_inject : mU := (⟨"InterleavedLinkModel", "inject", "(IIIIZ)Z"⟩, prog_14_method_55_code, 10, some .boolean)
abbrev uMod_frame : mU := (⟨"InterleavedLinkModel", "frame", "(III)I"⟩, prog_14_method_56_code, 7, some .int)
abbrev uMod_state : mU := (⟨"InterleavedLinkModel", "state", "(II)I"⟩, prog_14_method_57_code, 3, some .int)
abbrev uMod_window : mU := (⟨"InterleavedLinkModel", "window", "(IIZ)I"⟩, prog_14_method_58_code, 4, some .int)
abbrev uMod_bytes : mU := (⟨"InterleavedLinkModel", "bytes", "(IIZ)I"⟩, prog_14_method_59_code, 4, some .int)
abbrev uMod_field : mU := (⟨"InterleavedLinkModel", "field", "(IIIZ)I"⟩, prog_14_method_60_code, 6, some .int)
abbrev uMod_table : mU := (⟨"InterleavedLinkModel", "table", "(IZI)I"⟩, prog_14_method_61_code, 5, some .int)
abbrev uMod_down : mU := (⟨"InterleavedLinkModel", "down", "(I)I"⟩, prog_14_method_62_code, 2, some .int)
abbrev uBlock_init : mU := (⟨"InterleavedLink$Block", "<init>", "(I)V"⟩, prog_2_method_1_code, 2, none)
abbrev uBlock_add : mU := (⟨"InterleavedLink$Block", "add", "(IIII)V"⟩, prog_2_method_2_code, 5, none)
abbrev uBQ_init : mU := (⟨"InterleavedLink$ByteQueue", "<init>", "(I)V"⟩, prog_3_method_1_code, 2, none)
abbrev uBQ_add : mU := (⟨"InterleavedLink$ByteQueue", "add", "([B)V"⟩, prog_3_method_2_code, 3, none)
abbrev uBQ_addLowest : mU := (⟨"InterleavedLink$ByteQueue", "addLowest", "(JI)V"⟩, prog_3_method_3_code, 7, none)
abbrev uBQ_take : mU := (⟨"InterleavedLink$ByteQueue", "take", "(I)[B"⟩, prog_3_method_4_code, 4, some (.array .byte))
abbrev uBQ_dropAll : mU := (⟨"InterleavedLink$ByteQueue", "dropAll", "()I"⟩, prog_3_method_5_code, 2, some .int)
abbrev uDec_init : mU := (⟨"InterleavedLink$Decoder", "<init>", "()V"⟩, prog_4_method_1_code, 1, none)
abbrev uDec_limitInForce : mU := (⟨"InterleavedLink$Decoder", "limitInForce", "(I)V"⟩, prog_4_method_2_code, 2, none)
abbrev uDec_decode : mU := (⟨"InterleavedLink$Decoder", "decode", "(LInterleavedLink$Block;I)LInterleavedLink$FieldList;"⟩, prog_4_method_3_code, 6, some (.object "InterleavedLink$FieldList"))
abbrev uDec_decodeField : mU := (⟨"InterleavedLink$Decoder", "decodeField", "(LInterleavedLink$Block;ILInterleavedLink$FieldList;)Z"⟩, prog_4_method_4_code, 9, some .boolean)
abbrev uEnc_init : mU := (⟨"InterleavedLink$Encoder", "<init>", "()V"⟩, prog_5_method_1_code, 1, none)
abbrev uEnc_hearLimit : mU := (⟨"InterleavedLink$Encoder", "hearLimit", "(I)V"⟩, prog_5_method_2_code, 2, none)
abbrev uEnc_encode : mU := (⟨"InterleavedLink$Encoder", "encode", "(LInterleavedLink$FieldList;)LInterleavedLink$Block;"⟩, prog_5_method_3_code, 4, some (.object "InterleavedLink$Block"))
abbrev uEnc_encodeMaximum : mU := (⟨"InterleavedLink$Encoder", "encodeMaximum", "(LInterleavedLink$Block;I)V"⟩, prog_5_method_4_code, 3, none)
abbrev uEnc_encodeField : mU := (⟨"InterleavedLink$Encoder", "encodeField", "(LInterleavedLink$Block;IIZ)V"⟩, prog_5_method_5_code, 6, none)
abbrev uEnd_init : mU := (⟨"InterleavedLink$End", "<init>", "(ZLInterleavedLink$Pipe;LInterleavedLink$Pipe;)V"⟩, prog_6_method_1_code, 5, none)
abbrev uEnd_streamOf : mU := (⟨"InterleavedLink$End", "streamOf", "(I)LInterleavedLink$Stream;"⟩, prog_6_method_2_code, 2, some (.object "InterleavedLink$Stream"))
abbrev uEnd_activeCount : mU := (⟨"InterleavedLink$End", "activeCount", "()I"⟩, prog_6_method_3_code, 3, some .int)
abbrev uEnd_mayOpen : mU := (⟨"InterleavedLink$End", "mayOpen", "()Z"⟩, prog_6_method_4_code, 1, some .boolean)
abbrev uEnd_openStream : mU := (⟨"InterleavedLink$End", "openStream", "(Z)I"⟩, prog_6_method_5_code, 3, some .int)
abbrev uEnd_sendHeaders : mU := (⟨"InterleavedLink$End", "sendHeaders", "(LInterleavedLink$Stream;Z)V"⟩, prog_6_method_6_code, 3, none)
abbrev uEnd_sendWaiting : mU := (⟨"InterleavedLink$End", "sendWaiting", "(I)I"⟩, prog_6_method_7_code, 4, some .int)
abbrev uEnd_nextSender : mU := (⟨"InterleavedLink$End", "nextSender", "()I"⟩, prog_6_method_8_code, 3, some .int)
abbrev uEnd_canSend : mU := (⟨"InterleavedLink$End", "canSend", "(LInterleavedLink$Stream;)Z"⟩, prog_6_method_9_code, 2, some .boolean)
abbrev uEnd_sendData : mU := (⟨"InterleavedLink$End", "sendData", "(LInterleavedLink$Stream;)V"⟩, prog_6_method_10_code, 5, none)
abbrev uEnd_takeUnread : mU := (⟨"InterleavedLink$End", "takeUnread", "(LInterleavedLink$Stream;I)J"⟩, prog_6_method_11_code, 7, some .long)
abbrev uEnd_sendSetting : mU := (⟨"InterleavedLink$End", "sendSetting", "(II)V"⟩, prog_6_method_12_code, 3, none)
abbrev uEnd_endWithReset : mU := (⟨"InterleavedLink$End", "endWithReset", "(LInterleavedLink$Stream;II)I"⟩, prog_6_method_13_code, 4, some .int)
abbrev uEnd_giveBack : mU := (⟨"InterleavedLink$End", "giveBack", "(I)V"⟩, prog_6_method_14_code, 2, none)
abbrev uEnd_linkError : mU := (⟨"InterleavedLink$End", "linkError", "(I)I"⟩, prog_6_method_15_code, 2, some .int)
abbrev uEnd_getFrame : mU := (⟨"InterleavedLink$End", "getFrame", "(LInterleavedLink$Frame;)I"⟩, prog_6_method_16_code, 2, some .int)
abbrev uEnd_getData : mU := (⟨"InterleavedLink$End", "getData", "(LInterleavedLink$Frame;)I"⟩, prog_6_method_17_code, 4, some .int)
abbrev uEnd_getHeaders : mU := (⟨"InterleavedLink$End", "getHeaders", "(LInterleavedLink$Frame;)I"⟩, prog_6_method_18_code, 4, some .int)
abbrev uEnd_getRequest : mU := (⟨"InterleavedLink$End", "getRequest", "(LInterleavedLink$Stream;LInterleavedLink$FieldList;Z)I"⟩, prog_6_method_19_code, 4, some .int)
abbrev uEnd_closeIdleBelow : mU := (⟨"InterleavedLink$End", "closeIdleBelow", "(I)V"⟩, prog_6_method_20_code, 3, none)
abbrev uEnd_takeList : mU := (⟨"InterleavedLink$End", "takeList", "(LInterleavedLink$Stream;LInterleavedLink$FieldList;Z)V"⟩, prog_6_method_21_code, 4, none)
abbrev uEnd_getReset : mU := (⟨"InterleavedLink$End", "getReset", "(LInterleavedLink$Frame;)I"⟩, prog_6_method_22_code, 3, some .int)
abbrev uEnd_getAck : mU := (⟨"InterleavedLink$End", "getAck", "()I"⟩, prog_6_method_23_code, 4, some .int)
abbrev uEnd_putInForce : mU := (⟨"InterleavedLink$End", "putInForce", "(II)V"⟩, prog_6_method_24_code, 3, none)
abbrev uEnd_getSetting : mU := (⟨"InterleavedLink$End", "getSetting", "(II)I"⟩, prog_6_method_25_code, 3, some .int)
abbrev uEnd_hearSetting : mU := (⟨"InterleavedLink$End", "hearSetting", "(II)V"⟩, prog_6_method_26_code, 3, none)
abbrev uEnd_moveSendWindows : mU := (⟨"InterleavedLink$End", "moveSendWindows", "(I)V"⟩, prog_6_method_27_code, 3, none)
abbrev uEnd_moveReceiveWindows : mU := (⟨"InterleavedLink$End", "moveReceiveWindows", "(I)V"⟩, prog_6_method_28_code, 3, none)
abbrev uEnd_getLinkWindow : mU := (⟨"InterleavedLink$End", "getLinkWindow", "(I)I"⟩, prog_6_method_29_code, 2, some .int)
abbrev uEnd_getStreamWindow : mU := (⟨"InterleavedLink$End", "getStreamWindow", "(LInterleavedLink$Frame;)I"⟩, prog_6_method_30_code, 4, some .int)
abbrev uFList_init : mU := (⟨"InterleavedLink$FieldList", "<init>", "()V"⟩, prog_7_method_1_code, 1, none)
abbrev uFList_add : mU := (⟨"InterleavedLink$FieldList", "add", "(IIZ)V"⟩, prog_7_method_2_code, 4, none)
abbrev uFrame_init : mU := (⟨"InterleavedLink$Frame", "<init>", "(IIIZI[BLInterleavedLink$Block;)V"⟩, prog_8_method_1_code, 8, none)
abbrev uFrame_ofData : mU := (⟨"InterleavedLink$Frame", "ofData", "(I[BZ)LInterleavedLink$Frame;"⟩, prog_8_method_2_code, 3, some (.object "InterleavedLink$Frame"))
abbrev uFrame_ofHeaders : mU := (⟨"InterleavedLink$Frame", "ofHeaders", "(ILInterleavedLink$Block;Z)LInterleavedLink$Frame;"⟩, prog_8_method_3_code, 3, some (.object "InterleavedLink$Frame"))
abbrev uFrame_ofReset : mU := (⟨"InterleavedLink$Frame", "ofReset", "(II)LInterleavedLink$Frame;"⟩, prog_8_method_4_code, 2, some (.object "InterleavedLink$Frame"))
abbrev uFrame_ofSetting : mU := (⟨"InterleavedLink$Frame", "ofSetting", "(II)LInterleavedLink$Frame;"⟩, prog_8_method_5_code, 2, some (.object "InterleavedLink$Frame"))
abbrev uFrame_ofAck : mU := (⟨"InterleavedLink$Frame", "ofAck", "()LInterleavedLink$Frame;"⟩, prog_8_method_6_code, 0, some (.object "InterleavedLink$Frame"))
abbrev uFrame_ofFarewell : mU := (⟨"InterleavedLink$Frame", "ofFarewell", "(I)LInterleavedLink$Frame;"⟩, prog_8_method_7_code, 1, some (.object "InterleavedLink$Frame"))
abbrev uFrame_ofWindow : mU := (⟨"InterleavedLink$Frame", "ofWindow", "(II)LInterleavedLink$Frame;"⟩, prog_8_method_8_code, 2, some (.object "InterleavedLink$Frame"))
abbrev uFrame_part : mU := (⟨"InterleavedLink$Frame", "part", "(I)I"⟩, prog_8_method_9_code, 2, some .int)
abbrev uPipe_init : mU := (⟨"InterleavedLink$Pipe", "<init>", "()V"⟩, prog_9_method_1_code, 1, none)
abbrev uPipe_isFull : mU := (⟨"InterleavedLink$Pipe", "isFull", "()Z"⟩, prog_9_method_2_code, 1, some .boolean)
abbrev uPipe_add : mU := (⟨"InterleavedLink$Pipe", "add", "(LInterleavedLink$Frame;)V"⟩, prog_9_method_3_code, 2, none)
abbrev uPipe_get : mU := (⟨"InterleavedLink$Pipe", "get", "(I)LInterleavedLink$Frame;"⟩, prog_9_method_4_code, 2, some (.object "InterleavedLink$Frame"))
abbrev uPipe_takeOldest : mU := (⟨"InterleavedLink$Pipe", "takeOldest", "()LInterleavedLink$Frame;"⟩, prog_9_method_5_code, 2, some (.object "InterleavedLink$Frame"))
abbrev uSett_init : mU := (⟨"InterleavedLink$Settings", "<init>", "()V"⟩, prog_10_method_1_code, 1, none)
abbrev uSett_isKnown : mU := (⟨"InterleavedLink$Settings", "isKnown", "(I)Z"⟩, prog_10_method_2_code, 1, some .boolean)
abbrev uSett_isInRange : mU := (⟨"InterleavedLink$Settings", "isInRange", "(II)Z"⟩, prog_10_method_3_code, 2, some .boolean)
abbrev uStream_init : mU := (⟨"InterleavedLink$Stream", "<init>", "(I)V"⟩, prog_11_method_1_code, 2, none)
abbrev uStream_isActive : mU := (⟨"InterleavedLink$Stream", "isActive", "()Z"⟩, prog_11_method_2_code, 1, some .boolean)
abbrev uStream_maySend : mU := (⟨"InterleavedLink$Stream", "maySend", "()Z"⟩, prog_11_method_3_code, 1, some .boolean)
abbrev uStream_mayGet : mU := (⟨"InterleavedLink$Stream", "mayGet", "()Z"⟩, prog_11_method_4_code, 1, some .boolean)
abbrev uStream_open : mU := (⟨"InterleavedLink$Stream", "open", "(II)V"⟩, prog_11_method_5_code, 3, none)
abbrev uStream_endSent : mU := (⟨"InterleavedLink$Stream", "endSent", "()V"⟩, prog_11_method_6_code, 1, none)
abbrev uStream_endGot : mU := (⟨"InterleavedLink$Stream", "endGot", "()V"⟩, prog_11_method_7_code, 1, none)
abbrev uStream_cut : mU := (⟨"InterleavedLink$Stream", "cut", "()I"⟩, prog_11_method_8_code, 1, some .int)
abbrev uTable_init : mU := (⟨"InterleavedLink$Table", "<init>", "()V"⟩, prog_12_method_1_code, 1, none)
abbrev uTable_hasIndex : mU := (⟨"InterleavedLink$Table", "hasIndex", "(I)Z"⟩, prog_12_method_2_code, 2, some .boolean)
abbrev uTable_nameOf : mU := (⟨"InterleavedLink$Table", "nameOf", "(I)I"⟩, prog_12_method_3_code, 2, some .int)
abbrev uTable_valueOf : mU := (⟨"InterleavedLink$Table", "valueOf", "(I)I"⟩, prog_12_method_4_code, 2, some .int)
abbrev uTable_leastEqual : mU := (⟨"InterleavedLink$Table", "leastEqual", "(II)I"⟩, prog_12_method_5_code, 4, some .int)
abbrev uTable_leastNamed : mU := (⟨"InterleavedLink$Table", "leastNamed", "(I)I"⟩, prog_12_method_6_code, 3, some .int)
abbrev uTable_setMaximum : mU := (⟨"InterleavedLink$Table", "setMaximum", "(I)V"⟩, prog_12_method_7_code, 2, none)
abbrev uTable_add : mU := (⟨"InterleavedLink$Table", "add", "(II)V"⟩, prog_12_method_8_code, 5, none)
abbrev uTable_dropDownTo : mU := (⟨"InterleavedLink$Table", "dropDownTo", "(I)V"⟩, prog_12_method_9_code, 2, none)
abbrev uTable_sizeOf : mU := (⟨"InterleavedLink$Table", "sizeOf", "(I)I"⟩, prog_12_method_10_code, 1, some .int)
abbrev uLaw : mU := (⟨"InterleavedLinkLaw", "law", "([I)Z"⟩, code, 4, some .boolean)
end
section
/-! ===== my own machine: a typed memory, frames over it, contracts =====
X: class and slot numbers; the numbers of the array classes; where the heap began; the old cells (0 the script, 1 FIXED_NAMES, 2 FIXED_VALUES): address, length, contents.
M: the next address; tag and length of each cell; ints; longs; references. Cells of ours begin at 3. A tag below 100 is a place in vwCl, 100 int[], 101 byte[], 102 boolean[], 103 long[], 104.. arrays of references. -/
abbrev mX : Type := va_G × (Nat → ClassId) × Nat × (Nat → Nat) × (Nat → Nat) × (Nat → Nat → Int32)
abbrev xD (X : mX) : va_G := X.1
abbrev xK (X : mX) : Nat → ClassId := X.2.1
abbrev xB (X : mX) : Nat := X.2.2.1
abbrev xO (X : mX) : Nat → Nat := X.2.2.2.1
abbrev xL (X : mX) : Nat → Nat := X.2.2.2.2.1
abbrev xI (X : mX) : Nat → Nat → Int32 := X.2.2.2.2.2
def xA (X : mX) : Nat → Prop := fun q => xB X ≤ q
abbrev mM : Type := Nat × (Nat → Nat × Nat) × (Nat → Nat → Int32) × (Nat → Nat → Int64) × (Nat → Nat → Option Nat)
abbrev mN (M : mM) : Nat := M.1
abbrev mT (M : mM) : Nat → Nat × Nat := M.2.1
abbrev mI (M : mM) : Nat → Nat → Int32 := M.2.2.1
abbrev mL (M : mM) : Nat → Nat → Int64 := M.2.2.2.1
abbrev mR (M : mM) : Nat → Nat → Option Nat := M.2.2.2.2
def up2 {α : Type} (f : Nat → Nat → α) (a k : Nat) (v : α) : Nat → Nat → α := fun a' k' => if a' = a ∧ k' = k then v else f a' k'
def setI (M : mM) (a k : Nat) (v : Int32) : mM := (mN M, mT M, up2 (mI M) a k v, mL M, mR M)
def setL (M : mM) (a k : Nat) (v : Int64) : mM := (mN M, mT M, mI M, up2 (mL M) a k v, mR M)
def setR (M : mM) (a k : Nat) (v : Option Nat) : mM := (mN M, mT M, mI M, mL M, up2 (mR M) a k v)
/-- a new cell, all zero -/
def newM (M : mM) (tag len : Nat) : mM := (mN M + 1, fun a => if a = mN M then (tag, len) else mT M a, fun a k => if a = mN M then 0 else mI M a k, fun a k => if a = mN M then 0 else mL M a k, fun a k => if a = mN M then none else mR M a k)
theorem up2_same {α : Type} {f : Nat → Nat → α} {a k : Nat} {v : α} : up2 f a k v a k = v := by simp [up2]
theorem up2_ne {α : Type} {f : Nat → Nat → α} {a k a' k' : Nat} {v : α} (h : ¬ (a' = a ∧ k' = k)) : up2 f a k v a' k' = f a' k' := by simp [up2, h]
/-- what kind of value a field or element is: 0 an int, 1 a long, 2 a reference -/
def fk (tag k : Nat) : Nat := if tag < 100 then (fkT.getD tag []).getD k 0 else if tag < 103 then 0 else if tag = 103 then 1 else 2
def adr (X : mX) (a : Nat) : Nat := if a < 3 then xO X a else xB X + (a - 3)
def rel (X : mX) : Value → Value
  | .ref a => .ref (adr X a)
  | .int x => .int x
  | .long x => .long x
  | .null => .null
  | v => v
theorem rel_rf (X : mX) (o : Option Nat) : rel X (va_rf o) = va_rf (o.map (adr X)) := by cases o <;> rfl
theorem rel_cat (X : mX) (v : Value) : (rel X v).category = v.category := by cases v <;> rfl
def vk (n : Nat) (x : Int32) (y : Int64) (o : Option Nat) : Value := if n = 0 then .int x else if n = 1 then .long y else va_rf o
def vv (X : mX) (M : mM) (a k : Nat) : Value := vk (fk (mT M a).1 k) (mI M a k) (mL M a k) ((mR M a k).map (adr X))
def mAt (X : mX) (M : mM) (H : Heap) (a : Nat) : Prop :=
  ((mT M a).1 < 100 → ∃ r : vw_C, vwCl[(mT M a).1]? = some r ∧ t_OB (adr X a) ((xD X).1 (mT M a).1) r.2.2 ((xD X).2 (mT M a).1) H (vv X M a)) ∧
  (¬ (mT M a).1 < 100 → H[adr X a]? = some (arrV (xK X (mT M a).1) (mT M a).2 (vv X M a)))
def Sm (X : mX) (M : mM) (H : Heap) : Prop := H.size + 3 = xB X + mN M ∧ 3 ≤ mN M ∧ (∀ a, ¬ (3 ≤ a ∧ a < mN M) → (mT M a).1 = 999) ∧ ∀ a, 3 ≤ a → a < mN M → mAt X M H a
/-! words -/
def gNest : Cond → Bool
  | .fieldLinkNest _ _ _ _ _ _ => true
  | .methodLinkNest _ _ _ _ => true
  | _ => false
def gW : List Cond := lw_tbl.filter goodWord
def gN : List Cond := lw_tbl.filter gNest
theorem gW_in (i : Nat) {w : Cond} (h : lw_tbl[i]? = some w) (hg : goodWord w = true) : w ∈ gW := List.mem_filter.mpr ⟨List.mem_of_getElem? h, hg⟩
theorem gN_in (i : Nat) {w : Cond} (h : lw_tbl[i]? = some w) (hg : gNest w = true) : w ∈ gN := List.mem_filter.mpr ⟨List.mem_of_getElem? h, hg⟩
theorem gW_good {w : Cond} (h : w ∈ gW) : (w.onTables && w.keeps) = true ∨ ∃ ty, w = .arrayClass ty := good_of_word (List.mem_filter.mp h).2
theorem gN_warm {w : Cond} (h : w ∈ gN) {s U : State} (hW : s.WarmedH U.vm) (hz : va_Nw w s) : va_Nw w U := by
  have hg := (List.mem_filter.mp h).2
  cases w <;> first | exact va_Nw.warmF hW hz | exact va_Nw.warmM hW hz | cases hg
theorem gN_tab {w : Cond} (h : w ∈ gN) : w.onTables = true := by
  have hg := (List.mem_filter.mp h).2
  cases w <;> first | rfl | cases hg
/-- a method: its name, code, locals, answer -/
abbrev wC (u : mU) : Cond := Cond.code u.1 u.2.1 u.2.2.1 u.2.2.2
theorem gW_sub (u v : mU) (h : wC v ∈ gW) : GoodIn (wC u :: gW) (wC v :: gW) := by
  intro w hw
  rcases List.mem_cons.mp hw with rfl | hw
  · exact ⟨List.mem_cons_of_mem _ h, gW_good h⟩
  · exact ⟨List.mem_cons_of_mem _ hw, gW_good hw⟩
def mTys (X : mX) : List (ClassId × FieldType) := [(xK X 100, .int), (xK X 101, .byte), (xK X 102, .boolean), (xK X 103, .long), (xK X 104, .object (aoC 4)), (xK X 105, .object (aoC 5)), (xK X 106, .object (aoC 6))]
/-- what stays as it was all along: tables, nest words, static fields, old cells -/
def mOd (X : mX) (U : State) : Prop := va_K (xD X) vwCl (mTys X) U ∧ (∀ w ∈ gN, va_Nw w U) ∧ (∀ k, k < 7 → va_AO (aoC k) U) ∧ va_Z fixC "FIXED_NAMES" "[I" (.ref (xO X 1)) (xA X) U U.heap ∧ va_Z fixC "FIXED_VALUES" "[I" (.ref (xO X 2)) (xA X) U U.heap ∧
  ∀ a, a < 3 → va_T .int (xO X a) (xL X a) (fun j => .int (xI X a j)) (xA X) U U.heap
theorem mOd.mv {X : mX} {s U : State} {locs : List Loc} (h : mOd X s) (hW : s.WarmedH U.vm) (hS : va_S (xA X) s.heap U.heap locs) : mOd X U := by
  obtain ⟨h1, h2, h3, h4, h5, h6⟩ := h
  exact ⟨va_K.moved hW.alike h1, fun w hw => gN_warm hw hW (h2 w hw), fun k hk => va_AO.moved hW.alike (h3 k hk), (va_Z.moved hW.alike h4).kept hS.2.1, (va_Z.moved hW.alike h5).kept hS.2.1, fun a ha => (va_T.moved hW.alike (h6 a ha)).kept hS.2.1⟩
theorem mOd.call {X : mX} {U : State} {g : JFrame} {mk : MethodId} {a : Array Value} (h : mOd X U) : mOd X (U.calling g mk a) := by
  obtain ⟨h1, h2, h3, h4, h5, h6⟩ := h
  have hvm : U.vm.Alike (U.calling g mk a).vm := Vm.Alike.refl U.vm
  exact ⟨va_K.moved hvm h1, fun w hw => va_Nw.same (u := U) (U := U.calling g mk a) (gN_tab hw) rfl (h2 w hw), fun k hk => va_AO.moved hvm (h3 k hk), va_Z.moved hvm h4, va_Z.moved hvm h5, fun b hb => va_T.moved hvm (h6 b hb)⟩
/-! contracts -/
def mPc (X : mX) (av : List Value) (M : mM) : Array Value → State → Prop := fun v U => v = (av.map (rel X)).toArray ∧ Sm X M U.heap ∧ mOd X U
def mQc (X : mX) (Q : Option Value → mM → Prop) : Array Value → State → Outcome → State → Prop := fun _ st o t => (∃ (r : Option Value) (M : mM), o = .returned (r.map (rel X)) ∧ Q r M ∧ Sm X M t.heap ∧ mOd X t) ∧ va_F (xA X) st t
def Ct (X : mX) (l : Launch) (u : mU) (rm : Room) (av : List Value) (M : mM) (Q : Option Value → mM → Prop) : Prop := Met l u.1 (wC u :: gW) rm (mPc X av M) (mQc X Q) rm.cells rm.slots (xA X)
theorem mPc.blind {X : mX} {av : List Value} {M : mM} : FrameBlind (mPc X av M) := fun _ _ _ _ h => ⟨h.1, h.2.1, h.2.2.call⟩
/-! frames -/
def Fx (X : mX) (u : mU) (p : Program) (s : State) (m : MethodId) (args : Array Value) (meth : Method) (c : Code) : Prop :=
  p.tables.exec = Jvm.exec ∧ c.code = u.2.1 ∧ meth.sig.returnType = u.2.2.2 ∧ c.maxLocals = u.2.2.1 ∧ s.vm.findClass u.1.cls = some m.cls ∧ (∀ w ∈ wC u :: gW, w.before args s = true) ∧ meth.locks = false ∧ meth.name = u.1.name ∧ mOd X s ∧ xB X ≤ s.heap.size
def LR (X : mX) (lr : Array Slot) (n : Nat) (ls : List (Option Value)) : Prop := lr.size = n ∧ lv_wf lr ∧ ls.length = n ∧ ∀ (i : Nat) (v : Value), ls[i]? = some (some v) → lr[i]? = some (.val (rel X v))
def G (X : mX) (l : Launch) (u : mU) (rm : Room) (bc bs : Nat) (M : mM) (pc : Nat) (ls : List (Option Value)) (st : List Value) (Q : Option Value → mM → Prop) : Prop :=
  ∀ (p : Program) (e : Env) (s : State) (m : MethodId) (args : Array Value) (below : List Frame) (meth : Method) (c : Code) (H : Heap) (locs : List Loc) (cells slots : Nat) (lr : Array Slot),
    Fx X u p s m args meth c → Sm X M H → va_S (xA X) s.heap H locs → cells + bc ≤ rm.cells → slots + bs ≤ rm.slots → LR X lr u.2.2.1 ls →
    W p l e rm s m args below meth c H locs cells slots (MQ below (mQc X Q) args s rm.cells rm.slots (xA X)) (F0 m pc lr (st.map (rel X)))
def eL : List Value → List (Option Value)
  | [] => []
  | v :: t => if v.category = 2 then some v :: none :: eL t else some v :: eL t
theorem eL_len (X : mX) (av : List Value) : (eL av).length = (lg_sl (av.map (rel X))).length := by
  induction av with
  | nil => rfl
  | cons v t ih =>
    simp only [eL, List.map_cons, lg_sl, List.flatMap_cons, rel_cat]
    by_cases h : v.category = 2
    · simp only [h, if_true, List.length_cons, List.length_append]
      simp only [lg_sl] at ih
      simp [ih]
      omega
    · simp only [h, if_false, List.length_cons, List.length_append]
      simp only [lg_sl] at ih
      simp [ih]
      omega
theorem eL_at (X : mX) (av : List Value) : ∀ (i : Nat) (v : Value), (eL av)[i]? = some (some v) → (lg_sl (av.map (rel X)))[i]? = some (.val (rel X v)) := by
  induction av with
  | nil => intro i v h; simp [eL] at h
  | cons w t ih =>
    intro i v h
    simp only [eL] at h
    simp only [List.map_cons, lg_sl, List.flatMap_cons, rel_cat]
    have ih' : ∀ (i : Nat) (v : Value), (eL t)[i]? = some (some v) → ((t.map (rel X)).flatMap fun v => if v.category = 2 then [Slot.val v, .second] else [.val v])[i]? = some (.val (rel X v)) := ih
    by_cases hc : w.category = 2
    · simp only [hc, if_true] at h ⊢
      match i, h with
      | 0, h => simp at h; subst h; rfl
      | 1, h => simp at h
      | (j + 2), h => simpa using ih' j v (by simpa using h)
    · simp only [hc, if_false] at h ⊢
      match i, h with
      | 0, h => simp at h; subst h; rfl
      | (j + 1), h => simpa using ih' j v (by simpa using h)
theorem LR.entry (X : mX) (av : List Value) (n : Nat) (h : (eL av).length ≤ n) : LR X ((lg_sl (av.map (rel X)) ++ List.replicate (n - (lg_sl (av.map (rel X))).length) Slot.unset).toArray) n (eL av ++ List.replicate (n - (eL av).length) none) := by
  have hl := eL_len X av
  have h0 := lv_entry (av.map (rel X)) (n := n) (by omega)
  refine ⟨h0.1, h0.2.1, by simp; omega, fun i v hi => ?_⟩
  by_cases hk : i < (eL av).length
  · rw [List.getElem?_append_left hk] at hi
    have := eL_at X av i v hi
    simp only [List.getElem?_toArray]
    rw [List.getElem?_append_left (by omega)]
    exact this
  · rw [List.getElem?_append_right (by omega)] at hi
    have := List.mem_of_getElem? hi
    rw [List.mem_replicate] at this
    exact absurd this.2 (by simp)
set_option maxRecDepth 100000 in
/-- a contract out of a walk -/
theorem Ct.of {X : mX} {l : Launch} {u : mU} {rm : Room} {av : List Value} {M : mM} {Q : Option Value → mM → Prop} (hy : plainName u.1.cls = true) (hlen : (eL av).length ≤ u.2.2.1) (h : G X l u rm rm.cells rm.slots M 0 (eL av ++ List.replicate (u.2.2.1 - (eL av).length) none) [] Q) : Ct X l u rm av M Q := by
  refine Met.ofW (cc := u.2.1) (maxL := u.2.2.1) (ret := u.2.2.2) (ws' := gW) hy rfl ?_
  intro p e s m args below meth c s₁ B hml hv
  obtain ⟨rfl, hM, hO⟩ := hv
  have hts := atoms_spec (ws := wC u :: gW) B.pre
  have F : Fx X u p s m (av.map (rel X)).toArray meth c := ⟨B.exec, B.bytes, B.returns, hml, findClass_of_methodNamed B.named, hts, B.notSynchronized, (name_of_methodNamed B.named B.method).1, hO, by have := hM.1; have := hM.2.1; omega⟩
  rw [lg_entry_eq]
  exact h p e s m _ below meth c s.heap [] 0 0 _ F hM va_S.rf (by omega) (by omega) (LR.entry X av _ hlen)
end
section
/-! ===== one instruction, one row ===== -/
section GR
variable {X : mX} {l : Launch} {u : mU} {rm : Room} {bc bs : Nat} {M : mM} {ls : List (Option Value)} {st : List Value} {Q : Option Value → mM → Prop}
theorem g_iconst (pc : Nat) {n : Int} (v : Int32) (hd : decode u.2.1 pc = .ok (.iconst n, 1)) (hv : Int32.ofInt n = v) (k : G X l u rm bc bs M (pc + 1) ls (.int v :: st) Q) : G X l u rm bc bs M pc ls st Q := fun p e s m args below meth c H locs cells slots lr F hM hS hc hs hl => lv_iconst F.1 F.2.1 hd hv (k p e s m args below meth c H locs cells slots lr F hM hS hc hs hl)
theorem g_bipush (pc : Nat) {n : Int} (v : Int32) (hd : decode u.2.1 pc = .ok (.bipush n, 2)) (hv : (Int8.ofInt n).toInt32 = v) (k : G X l u rm bc bs M (pc + 2) ls (.int v :: st) Q) : G X l u rm bc bs M pc ls st Q := fun p e s m args below meth c H locs cells slots lr F hM hS hc hs hl => lv_bipush F.1 F.2.1 hd hv (k p e s m args below meth c H locs cells slots lr F hM hS hc hs hl)
theorem g_sipush (pc : Nat) {n : Int} (v : Int32) (hd : decode u.2.1 pc = .ok (.sipush n, 3)) (hv : (Int16.ofInt n).toInt32 = v) (k : G X l u rm bc bs M (pc + 3) ls (.int v :: st) Q) : G X l u rm bc bs M pc ls st Q := fun p e s m args below meth c H locs cells slots lr F hM hS hc hs hl => lv_sipush F.1 F.2.1 hd hv (k p e s m args below meth c H locs cells slots lr F hM hS hc hs hl)
theorem g_lconst (pc : Nat) {n : Fin 2} (v : Int64) (hd : decode u.2.1 pc = .ok (.lconst n, 1)) (hv : Int64.ofNat (n : Nat) = v) (k : G X l u rm bc bs M (pc + 1) ls (.long v :: st) Q) : G X l u rm bc bs M pc ls st Q := fun p e s m args below meth c H locs cells slots lr F hM hS hc hs hl => lv_lconst F.1 F.2.1 hd hv (k p e s m args below meth c H locs cells slots lr F hM hS hc hs hl)
theorem g_null (pc : Nat) (hd : decode u.2.1 pc = .ok (.aconst_null, 1)) (k : G X l u rm bc bs M (pc + 1) ls (.null :: st) Q) : G X l u rm bc bs M pc ls st Q := fun p e s m args below meth c H locs cells slots lr F hM hS hc hs hl => lv_null F.1 F.2.1 hd (k p e s m args below meth c H locs cells slots lr F hM hS hc hs hl)
theorem g_iload_n (pc : Nat) {n : Fin 4} {x : Int32} (hd : decode u.2.1 pc = .ok (.iload_n n, 1)) (hx : ls[(n : Nat)]? = some (some (.int x))) (k : G X l u rm bc bs M (pc + 1) ls (.int x :: st) Q) : G X l u rm bc bs M pc ls st Q := fun p e s m args below meth c H locs cells slots lr F hM hS hc hs hl => lv_iload_n F.1 F.2.1 hd rfl (hl.2.2.2 _ _ hx) (k p e s m args below meth c H locs cells slots lr F hM hS hc hs hl)
theorem g_iload (pc : Nat) {i : Nat} {x : Int32} (hd : decode u.2.1 pc = .ok (.iload i, 2)) (hx : ls[i]? = some (some (.int x))) (k : G X l u rm bc bs M (pc + 2) ls (.int x :: st) Q) : G X l u rm bc bs M pc ls st Q := fun p e s m args below meth c H locs cells slots lr F hM hS hc hs hl => lv_iload F.1 F.2.1 hd (hl.2.2.2 _ _ hx) (k p e s m args below meth c H locs cells slots lr F hM hS hc hs hl)
theorem g_lload_n (pc : Nat) {n : Fin 4} {x : Int64} (hd : decode u.2.1 pc = .ok (.lload_n n, 1)) (hx : ls[(n : Nat)]? = some (some (.long x))) (k : G X l u rm bc bs M (pc + 1) ls (.long x :: st) Q) : G X l u rm bc bs M pc ls st Q := fun p e s m args below meth c H locs cells slots lr F hM hS hc hs hl => lv_lload_n F.1 F.2.1 hd rfl (hl.2.2.2 _ _ hx) (k p e s m args below meth c H locs cells slots lr F hM hS hc hs hl)
theorem g_lload (pc : Nat) {i : Nat} {x : Int64} (hd : decode u.2.1 pc = .ok (.lload i, 2)) (hx : ls[i]? = some (some (.long x))) (k : G X l u rm bc bs M (pc + 2) ls (.long x :: st) Q) : G X l u rm bc bs M pc ls st Q := fun p e s m args below meth c H locs cells slots lr F hM hS hc hs hl => lv_lload F.1 F.2.1 hd (hl.2.2.2 _ _ hx) (k p e s m args below meth c H locs cells slots lr F hM hS hc hs hl)
theorem g_aload_n (pc : Nat) {n : Fin 4} {x : Nat} (hd : decode u.2.1 pc = .ok (.aload_n n, 1)) (hx : ls[(n : Nat)]? = some (some (.ref x))) (k : G X l u rm bc bs M (pc + 1) ls (.ref x :: st) Q) : G X l u rm bc bs M pc ls st Q := fun p e s m args below meth c H locs cells slots lr F hM hS hc hs hl => lv_aload_n F.1 F.2.1 hd rfl (hl.2.2.2 _ _ hx) (k p e s m args below meth c H locs cells slots lr F hM hS hc hs hl)
theorem g_aload (pc : Nat) {i : Nat} {x : Nat} (hd : decode u.2.1 pc = .ok (.aload i, 2)) (hx : ls[i]? = some (some (.ref x))) (k : G X l u rm bc bs M (pc + 2) ls (.ref x :: st) Q) : G X l u rm bc bs M pc ls st Q := fun p e s m args below meth c H locs cells slots lr F hM hS hc hs hl => lv_aload F.1 F.2.1 hd (hl.2.2.2 _ _ hx) (k p e s m args below meth c H locs cells slots lr F hM hS hc hs hl)
theorem g_aload_nN (pc : Nat) {n : Fin 4} (hd : decode u.2.1 pc = .ok (.aload_n n, 1)) (hx : ls[(n : Nat)]? = some (some .null)) (k : G X l u rm bc bs M (pc + 1) ls (.null :: st) Q) : G X l u rm bc bs M pc ls st Q := fun p e s m args below meth c H locs cells slots lr F hM hS hc hs hl => lv_aload_nN F.1 F.2.1 hd rfl (hl.2.2.2 _ _ hx) (k p e s m args below meth c H locs cells slots lr F hM hS hc hs hl)
theorem g_aloadN (pc : Nat) {i : Nat} (hd : decode u.2.1 pc = .ok (.aload i, 2)) (hx : ls[i]? = some (some .null)) (k : G X l u rm bc bs M (pc + 2) ls (.null :: st) Q) : G X l u rm bc bs M pc ls st Q := fun p e s m args below meth c H locs cells slots lr F hM hS hc hs hl => lv_aloadN F.1 F.2.1 hd (hl.2.2.2 _ _ hx) (k p e s m args below meth c H locs cells slots lr F hM hS hc hs hl)
/-- no long stands just below place i -/
def lOK (ls : List (Option Value)) : Nat → Bool
  | 0 => true
  | j + 1 => match ls[j]? with
    | some (some (.long _)) => false
    | some (some (.double _)) => false
    | _ => true
theorem lOK_of {ls : List (Option Value)} {i j : Nat} {v : Value} (h : lOK ls i = true) (hj : ls[j]? = some (some v)) (hi : j + 1 = i) : v.category = 1 := by
  subst hi
  cases v <;> first | rfl | (simp [lOK, hj] at h)
def lPairs (X : mX) (ls : List (Option Value)) : List (Nat × Value) := (List.range ls.length).filterMap fun j => (ls[j]?.join).map fun v => (j, rel X v)
theorem lPairs_in {X : mX} {ls : List (Option Value)} {j : Nat} {v : Value} (h : ls[j]? = some (some v)) : (j, rel X v) ∈ lPairs X ls := by
  refine List.mem_filterMap.mpr ⟨j, List.mem_range.mpr (List.getElem?_eq_some_iff.mp h).1, ?_⟩
  simp [h]
theorem lPairs_of {X : mX} {ls : List (Option Value)} {q : Nat × Value} (h : q ∈ lPairs X ls) : ∃ v, ls[q.1]? = some (some v) ∧ q.2 = rel X v := by
  obtain ⟨j, -, hj⟩ := List.mem_filterMap.mp h
  cases hv : ls[j]? with
  | none => simp [hv] at hj
  | some o =>
    cases o with
    | none => simp [hv] at hj
    | some v =>
      simp [hv] at hj
      subst hj
      exact ⟨v, hv, rfl⟩
theorem LR.has {X : mX} {lr : Array Slot} {n : Nat} {ls : List (Option Value)} (h : LR X lr n ls) : lv_has lr n (lPairs X ls) := ⟨h.1, h.2.1, fun q hq => by
  obtain ⟨v, h1, h2⟩ := lPairs_of hq
  rw [h2]
  exact h.2.2.2 _ _ h1⟩
theorem LR.set {X : mX} {lr lr' : Array Slot} {n i : Nat} {ls : List (Option Value)} {v : Value} (h : LR X lr n ls) (hk : lOK ls i = true) (h' : lv_has lr' n ((i, rel X v) :: (lPairs X ls).filter (fun q => !(q.1 == i) && !(q.1 + 1 == i && q.2.category == 2)))) : LR X lr' n (ls.set i (some v)) := by
  refine ⟨h'.1, h'.2.1, by simp [h.2.2.1], fun j w hj => ?_⟩
  by_cases e : j = i
  · subst e
    have hlt : j < ls.length := by have := (List.getElem?_eq_some_iff.mp hj).1; simpa using this
    rw [List.getElem?_set_self hlt] at hj
    cases hj
    exact h'.2.2 (j, rel X v) List.mem_cons_self
  · rw [List.getElem?_set_ne (Ne.symm e)] at hj
    refine h'.2.2 (j, rel X w) (List.mem_cons_of_mem _ (List.mem_filter.mpr ⟨lPairs_in hj, ?_⟩))
    by_cases e2 : j + 1 = i
    · have := lOK_of hk hj e2
      simp [e, rel_cat, this]
    · simp [e, e2]
theorem LR.set2 {X : mX} {lr lr' : Array Slot} {n i : Nat} {ls : List (Option Value)} {v : Value} (h : LR X lr n ls) (hk : lOK ls i = true) (h' : lv_has lr' n ((i, rel X v) :: (lPairs X ls).filter (fun q => !(q.1 == i) && (!(q.1 == i + 1) && !(q.1 + 1 == i && q.2.category == 2))))) : LR X lr' n ((ls.set i (some v)).set (i + 1) none) := by
  refine ⟨h'.1, h'.2.1, by simp [h.2.2.1], fun j w hj => ?_⟩
  by_cases e1 : j = i + 1
  · subst e1
    have hlt : i + 1 < (ls.set i (some v)).length := by have := (List.getElem?_eq_some_iff.mp hj).1; simpa using this
    rw [List.getElem?_set_self hlt] at hj
    cases hj
  · rw [List.getElem?_set_ne (Ne.symm e1)] at hj
    by_cases e : j = i
    · subst e
      have hlt : j < ls.length := by have := (List.getElem?_eq_some_iff.mp hj).1; simpa using this
      rw [List.getElem?_set_self hlt] at hj
      cases hj
      exact h'.2.2 (j, rel X v) List.mem_cons_self
    · rw [List.getElem?_set_ne (Ne.symm e)] at hj
      refine h'.2.2 (j, rel X w) (List.mem_cons_of_mem _ (List.mem_filter.mpr ⟨lPairs_in hj, ?_⟩))
      by_cases e2 : j + 1 = i
      · have := lOK_of hk hj e2
        simp [e, e1, rel_cat, this]
      · simp [e, e1, e2]
theorem g_istore_n (pc : Nat) {n : Fin 4} {x : Int32} (hd : decode u.2.1 pc = .ok (.istore_n n, 1)) (hi : (n : Nat) < u.2.2.1) (hk : lOK ls (n : Nat) = true) (k : G X l u rm bc bs M (pc + 1) (ls.set (n : Nat) (some (.int x))) st Q) : G X l u rm bc bs M pc ls (.int x :: st) Q := fun p e s m args below meth c H locs cells slots lr F hM hS hc hs hl => lv_istore_n F.1 F.2.1 hd rfl hl.has hi rfl (fun lr' h' => (k p e s m args below meth c H locs cells slots lr' F hM hS hc hs (hl.set (v := .int x) hk h')))
theorem g_istore (pc : Nat) {i : Nat} {x : Int32} (hd : decode u.2.1 pc = .ok (.istore i, 2)) (hi : i < u.2.2.1) (hk : lOK ls i = true) (k : G X l u rm bc bs M (pc + 2) (ls.set i (some (.int x))) st Q) : G X l u rm bc bs M pc ls (.int x :: st) Q := fun p e s m args below meth c H locs cells slots lr F hM hS hc hs hl => lv_istore F.1 F.2.1 hd hl.has hi rfl (fun lr' h' => (k p e s m args below meth c H locs cells slots lr' F hM hS hc hs (hl.set (v := .int x) hk h')))
theorem g_astore_n (pc : Nat) {n : Fin 4} {x : Nat} (hd : decode u.2.1 pc = .ok (.astore_n n, 1)) (hi : (n : Nat) < u.2.2.1) (hk : lOK ls (n : Nat) = true) (k : G X l u rm bc bs M (pc + 1) (ls.set (n : Nat) (some (.ref x))) st Q) : G X l u rm bc bs M pc ls (.ref x :: st) Q := fun p e s m args below meth c H locs cells slots lr F hM hS hc hs hl => lv_astore_n F.1 F.2.1 hd rfl hl.has hi rfl (fun lr' h' => (k p e s m args below meth c H locs cells slots lr' F hM hS hc hs (hl.set (v := .ref x) hk h')))
theorem g_astore (pc : Nat) {i : Nat} {x : Nat} (hd : decode u.2.1 pc = .ok (.astore i, 2)) (hi : i < u.2.2.1) (hk : lOK ls i = true) (k : G X l u rm bc bs M (pc + 2) (ls.set i (some (.ref x))) st Q) : G X l u rm bc bs M pc ls (.ref x :: st) Q := fun p e s m args below meth c H locs cells slots lr F hM hS hc hs hl => lv_astore F.1 F.2.1 hd hl.has hi rfl (fun lr' h' => (k p e s m args below meth c H locs cells slots lr' F hM hS hc hs (hl.set (v := .ref x) hk h')))
theorem g_astore_nN (pc : Nat) {n : Fin 4}  (hd : decode u.2.1 pc = .ok (.astore_n n, 1)) (hi : (n : Nat) < u.2.2.1) (hk : lOK ls (n : Nat) = true) (k : G X l u rm bc bs M (pc + 1) (ls.set (n : Nat) (some (.null))) st Q) : G X l u rm bc bs M pc ls (.null :: st) Q := fun p e s m args below meth c H locs cells slots lr F hM hS hc hs hl => lv_astore_nN F.1 F.2.1 hd rfl hl.has hi rfl (fun lr' h' => (k p e s m args below meth c H locs cells slots lr' F hM hS hc hs (hl.set (v := .null) hk h')))
theorem g_astoreN (pc : Nat) {i : Nat}  (hd : decode u.2.1 pc = .ok (.astore i, 2)) (hi : i < u.2.2.1) (hk : lOK ls i = true) (k : G X l u rm bc bs M (pc + 2) (ls.set i (some (.null))) st Q) : G X l u rm bc bs M pc ls (.null :: st) Q := fun p e s m args below meth c H locs cells slots lr F hM hS hc hs hl => lv_astoreN F.1 F.2.1 hd hl.has hi rfl (fun lr' h' => (k p e s m args below meth c H locs cells slots lr' F hM hS hc hs (hl.set (v := .null) hk h')))
theorem g_lstore_n (pc : Nat) {n : Fin 4} {x : Int64} (hd : decode u.2.1 pc = .ok (.lstore_n n, 1)) (hi : (n : Nat) + 1 < u.2.2.1) (hk : lOK ls (n : Nat) = true) (k : G X l u rm bc bs M (pc + 1) ((ls.set (n : Nat) (some (.long x))).set ((n : Nat) + 1) none) st Q) : G X l u rm bc bs M pc ls (.long x :: st) Q := fun p e s m args below meth c H locs cells slots lr F hM hS hc hs hl => lv_lstore_n F.1 F.2.1 hd rfl hl.has hi rfl (fun lr' h' => (k p e s m args below meth c H locs cells slots lr' F hM hS hc hs (hl.set2 (v := .long x) hk h')))
theorem g_lstore (pc : Nat) {i : Nat} {x : Int64} (hd : decode u.2.1 pc = .ok (.lstore i, 2)) (hi : i + 1 < u.2.2.1) (hk : lOK ls i = true) (k : G X l u rm bc bs M (pc + 2) ((ls.set i (some (.long x))).set (i + 1) none) st Q) : G X l u rm bc bs M pc ls (.long x :: st) Q := fun p e s m args below meth c H locs cells slots lr F hM hS hc hs hl => lv_lstore F.1 F.2.1 hd hl.has hi rfl (fun lr' h' => (k p e s m args below meth c H locs cells slots lr' F hM hS hc hs (hl.set2 (v := .long x) hk h')))
theorem g_iinc (pc : Nat) {i : Nat} {n : Int} {x : Int32} (v : Int32) (hd : decode u.2.1 pc = .ok (.iinc i n, 3)) (hx : ls[i]? = some (some (.int x))) (hv : Int32.ofInt n = v) (hi : i < u.2.2.1) (hk : lOK ls i = true) (k : G X l u rm bc bs M (pc + 3) (ls.set i (some (.int (x + v)))) st Q) : G X l u rm bc bs M pc ls st Q := by
  intro p e s m args below meth c H locs cells slots lr F hM hS hc hs hl
  subst hv
  obtain ⟨j, hj⟩ := List.getElem?_of_mem (lPairs_in (X := X) hx)
  exact lv_iinc F.1 F.2.1 hd hl.has hj rfl hi rfl (fun lr' h' => (k p e s m args below meth c H locs cells slots lr' F hM hS hc hs (hl.set (v := .int (x + Int32.ofInt n)) hk h')))
theorem g_iadd (pc : Nat) {x y : Int32} (hd : decode u.2.1 pc = .ok (.iadd, 1)) (k : G X l u rm bc bs M (pc + 1) ls (.int (x + y) :: st) Q) : G X l u rm bc bs M pc ls (.int y :: .int x :: st) Q := fun p e s m args below meth c H locs cells slots lr F hM hS hc hs hl => lv_iadd F.1 F.2.1 hd (k p e s m args below meth c H locs cells slots lr F hM hS hc hs hl)
theorem g_isub (pc : Nat) {x y : Int32} (hd : decode u.2.1 pc = .ok (.isub, 1)) (k : G X l u rm bc bs M (pc + 1) ls (.int (x - y) :: st) Q) : G X l u rm bc bs M pc ls (.int y :: .int x :: st) Q := fun p e s m args below meth c H locs cells slots lr F hM hS hc hs hl => lv_isub F.1 F.2.1 hd (k p e s m args below meth c H locs cells slots lr F hM hS hc hs hl)
theorem g_imul (pc : Nat) {x y : Int32} (hd : decode u.2.1 pc = .ok (.imul, 1)) (k : G X l u rm bc bs M (pc + 1) ls (.int (x * y) :: st) Q) : G X l u rm bc bs M pc ls (.int y :: .int x :: st) Q := fun p e s m args below meth c H locs cells slots lr F hM hS hc hs hl => lv_imul F.1 F.2.1 hd (k p e s m args below meth c H locs cells slots lr F hM hS hc hs hl)
theorem g_iand (pc : Nat) {x y : Int32} (hd : decode u.2.1 pc = .ok (.iand, 1)) (k : G X l u rm bc bs M (pc + 1) ls (.int (x &&& y) :: st) Q) : G X l u rm bc bs M pc ls (.int y :: .int x :: st) Q := fun p e s m args below meth c H locs cells slots lr F hM hS hc hs hl => lv_iand F.1 F.2.1 hd (k p e s m args below meth c H locs cells slots lr F hM hS hc hs hl)
theorem g_ior (pc : Nat) {x y : Int32} (hd : decode u.2.1 pc = .ok (.ior, 1)) (k : G X l u rm bc bs M (pc + 1) ls (.int (x ||| y) :: st) Q) : G X l u rm bc bs M pc ls (.int y :: .int x :: st) Q := fun p e s m args below meth c H locs cells slots lr F hM hS hc hs hl => lv_ior F.1 F.2.1 hd (k p e s m args below meth c H locs cells slots lr F hM hS hc hs hl)
theorem g_ixor (pc : Nat) {x y : Int32} (hd : decode u.2.1 pc = .ok (.ixor, 1)) (k : G X l u rm bc bs M (pc + 1) ls (.int (x ^^^ y) :: st) Q) : G X l u rm bc bs M pc ls (.int y :: .int x :: st) Q := fun p e s m args below meth c H locs cells slots lr F hM hS hc hs hl => lv_ixor F.1 F.2.1 hd (k p e s m args below meth c H locs cells slots lr F hM hS hc hs hl)
theorem g_idiv (pc : Nat) {x y : Int32} (hd : decode u.2.1 pc = .ok (.idiv, 1)) (hne : ¬ y = 0) (k : G X l u rm bc bs M (pc + 1) ls (.int (x / y) :: st) Q) : G X l u rm bc bs M pc ls (.int y :: .int x :: st) Q := fun p e s m args below meth c H locs cells slots lr F hM hS hc hs hl => lv_idiv F.1 F.2.1 hd hne (k p e s m args below meth c H locs cells slots lr F hM hS hc hs hl)
theorem g_irem (pc : Nat) {x y : Int32} (hd : decode u.2.1 pc = .ok (.irem, 1)) (hne : ¬ y = 0) (k : G X l u rm bc bs M (pc + 1) ls (.int (x - (x / y) * y) :: st) Q) : G X l u rm bc bs M pc ls (.int y :: .int x :: st) Q := fun p e s m args below meth c H locs cells slots lr F hM hS hc hs hl => lv_irem F.1 F.2.1 hd hne (k p e s m args below meth c H locs cells slots lr F hM hS hc hs hl)
theorem g_ineg (pc : Nat) {x : Int32} (hd : decode u.2.1 pc = .ok (.ineg, 1)) (k : G X l u rm bc bs M (pc + 1) ls (.int (-x) :: st) Q) : G X l u rm bc bs M pc ls (.int x :: st) Q := fun p e s m args below meth c H locs cells slots lr F hM hS hc hs hl => lv_ineg F.1 F.2.1 hd (k p e s m args below meth c H locs cells slots lr F hM hS hc hs hl)
theorem g_ladd (pc : Nat) {x y : Int64} (hd : decode u.2.1 pc = .ok (.ladd, 1)) (k : G X l u rm bc bs M (pc + 1) ls (.long (x + y) :: st) Q) : G X l u rm bc bs M pc ls (.long y :: .long x :: st) Q := fun p e s m args below meth c H locs cells slots lr F hM hS hc hs hl => lv_ladd F.1 F.2.1 hd (k p e s m args below meth c H locs cells slots lr F hM hS hc hs hl)
theorem g_lsub (pc : Nat) {x y : Int64} (hd : decode u.2.1 pc = .ok (.lsub, 1)) (k : G X l u rm bc bs M (pc + 1) ls (.long (x - y) :: st) Q) : G X l u rm bc bs M pc ls (.long y :: .long x :: st) Q := fun p e s m args below meth c H locs cells slots lr F hM hS hc hs hl => lv_lsub F.1 F.2.1 hd (k p e s m args below meth c H locs cells slots lr F hM hS hc hs hl)
theorem g_lmul (pc : Nat) {x y : Int64} (hd : decode u.2.1 pc = .ok (.lmul, 1)) (k : G X l u rm bc bs M (pc + 1) ls (.long (x * y) :: st) Q) : G X l u rm bc bs M pc ls (.long y :: .long x :: st) Q := fun p e s m args below meth c H locs cells slots lr F hM hS hc hs hl => lv_lmul F.1 F.2.1 hd (k p e s m args below meth c H locs cells slots lr F hM hS hc hs hl)
theorem g_land (pc : Nat) {x y : Int64} (hd : decode u.2.1 pc = .ok (.land, 1)) (k : G X l u rm bc bs M (pc + 1) ls (.long (x &&& y) :: st) Q) : G X l u rm bc bs M pc ls (.long y :: .long x :: st) Q := fun p e s m args below meth c H locs cells slots lr F hM hS hc hs hl => lv_land F.1 F.2.1 hd (k p e s m args below meth c H locs cells slots lr F hM hS hc hs hl)
theorem g_lor (pc : Nat) {x y : Int64} (hd : decode u.2.1 pc = .ok (.lor, 1)) (k : G X l u rm bc bs M (pc + 1) ls (.long (x ||| y) :: st) Q) : G X l u rm bc bs M pc ls (.long y :: .long x :: st) Q := fun p e s m args below meth c H locs cells slots lr F hM hS hc hs hl => lv_lor F.1 F.2.1 hd (k p e s m args below meth c H locs cells slots lr F hM hS hc hs hl)
theorem g_lxor (pc : Nat) {x y : Int64} (hd : decode u.2.1 pc = .ok (.lxor, 1)) (k : G X l u rm bc bs M (pc + 1) ls (.long (x ^^^ y) :: st) Q) : G X l u rm bc bs M pc ls (.long y :: .long x :: st) Q := fun p e s m args below meth c H locs cells slots lr F hM hS hc hs hl => lv_lxor F.1 F.2.1 hd (k p e s m args below meth c H locs cells slots lr F hM hS hc hs hl)
theorem g_i2l (pc : Nat) {x : Int32} (hd : decode u.2.1 pc = .ok (.i2l, 1)) (k : G X l u rm bc bs M (pc + 1) ls (.long x.toInt64 :: st) Q) : G X l u rm bc bs M pc ls (.int x :: st) Q := fun p e s m args below meth c H locs cells slots lr F hM hS hc hs hl => lv_i2l F.1 F.2.1 hd rfl (k p e s m args below meth c H locs cells slots lr F hM hS hc hs hl)
theorem g_l2i (pc : Nat) {x : Int64} (hd : decode u.2.1 pc = .ok (.l2i, 1)) (k : G X l u rm bc bs M (pc + 1) ls (.int x.toInt32 :: st) Q) : G X l u rm bc bs M pc ls (.long x :: st) Q := fun p e s m args below meth c H locs cells slots lr F hM hS hc hs hl => lv_l2i F.1 F.2.1 hd rfl (k p e s m args below meth c H locs cells slots lr F hM hS hc hs hl)
theorem g_i2b (pc : Nat) {x : Int32} (hd : decode u.2.1 pc = .ok (.i2b, 1)) (k : G X l u rm bc bs M (pc + 1) ls (.int x.toInt8.toInt32 :: st) Q) : G X l u rm bc bs M pc ls (.int x :: st) Q := fun p e s m args below meth c H locs cells slots lr F hM hS hc hs hl => lv_i2b F.1 F.2.1 hd rfl (k p e s m args below meth c H locs cells slots lr F hM hS hc hs hl)
theorem g_lshl (pc : Nat) {x : Int64} {y : Int32} (hd : decode u.2.1 pc = .ok (.lshl, 1)) (k : G X l u rm bc bs M (pc + 1) ls (.long (x <<< (y.toInt64 &&& 63)) :: st) Q) : G X l u rm bc bs M pc ls (.int y :: .long x :: st) Q := fun p e s m args below meth c H locs cells slots lr F hM hS hc hs hl => lv_lshl F.1 F.2.1 hd rfl (k p e s m args below meth c H locs cells slots lr F hM hS hc hs hl)
theorem g_lushr (pc : Nat) {x : Int64} {y : Int32} (hd : decode u.2.1 pc = .ok (.lushr, 1)) (k : G X l u rm bc bs M (pc + 1) ls (.long (x.toUInt64 >>> (y.toInt64.toUInt64 &&& Int64.toUInt64 63)).toInt64 :: st) Q) : G X l u rm bc bs M pc ls (.int y :: .long x :: st) Q := fun p e s m args below meth c H locs cells slots lr F hM hS hc hs hl => lv_lushr F.1 F.2.1 hd rfl (k p e s m args below meth c H locs cells slots lr F hM hS hc hs hl)
theorem g_lcmp (pc : Nat) {x y : Int64} (hd : decode u.2.1 pc = .ok (.lcmp, 1)) (k : G X l u rm bc bs M (pc + 1) ls (.int (lg_cmp x y) :: st) Q) : G X l u rm bc bs M pc ls (.long y :: .long x :: st) Q := fun p e s m args below meth c H locs cells slots lr F hM hS hc hs hl => W.lcmp F.1 F.2.1 hd (k p e s m args below meth c H locs cells slots lr F hM hS hc hs hl)
theorem g_dup (pc : Nat) {v : Value} (hd : decode u.2.1 pc = .ok (.dup, 1)) (hv : v.category = 1) (k : G X l u rm bc bs M (pc + 1) ls (v :: v :: st) Q) : G X l u rm bc bs M pc ls (v :: st) Q := fun p e s m args below meth c H locs cells slots lr F hM hS hc hs hl => lv_dup F.1 F.2.1 hd (by rw [rel_cat]; exact hv) (k p e s m args below meth c H locs cells slots lr F hM hS hc hs hl)
theorem g_pop (pc : Nat) {v : Value} (hd : decode u.2.1 pc = .ok (.pop, 1)) (hv : v.category = 1) (k : G X l u rm bc bs M (pc + 1) ls st Q) : G X l u rm bc bs M pc ls (v :: st) Q := fun p e s m args below meth c H locs cells slots lr F hM hS hc hs hl => lv_pop F.1 F.2.1 hd (by rw [rel_cat]; exact hv) (k p e s m args below meth c H locs cells slots lr F hM hS hc hs hl)
theorem g_dup_x1 (pc : Nat) {v w : Value} (hd : decode u.2.1 pc = .ok (.dup_x1, 1)) (hv : v.category = 1) (hw : w.category = 1) (k : G X l u rm bc bs M (pc + 1) ls (v :: w :: v :: st) Q) : G X l u rm bc bs M pc ls (v :: w :: st) Q := fun p e s m args below meth c H locs cells slots lr F hM hS hc hs hl => lv_dup_x1 F.1 F.2.1 hd (by rw [rel_cat]; exact hv) (by rw [rel_cat]; exact hw) (k p e s m args below meth c H locs cells slots lr F hM hS hc hs hl)
theorem g_dup2 (pc : Nat) {v w : Value} (hd : decode u.2.1 pc = .ok (.dup2, 1)) (hv : v.category = 1) (hw : w.category = 1) (k : G X l u rm bc bs M (pc + 1) ls (v :: w :: v :: w :: st) Q) : G X l u rm bc bs M pc ls (v :: w :: st) Q := fun p e s m args below meth c H locs cells slots lr F hM hS hc hs hl => lv_dup2_11 F.1 F.2.1 hd (by rw [rel_cat]; exact hv) (by rw [rel_cat]; exact hw) (k p e s m args below meth c H locs cells slots lr F hM hS hc hs hl)
theorem g_if_eq (pc tgt : Nat) {x : Int32} {off : Int} (hd : decode u.2.1 pc = .ok (.ifCond .eq off, 3)) (ht : (pc : Int) + off = (tgt : Int)) (kt : x = 0 → G X l u rm bc bs M tgt ls st Q) (kf : ¬ x = 0 → G X l u rm bc bs M (pc + 3) ls st Q) : G X l u rm bc bs M pc ls (.int x :: st) Q := fun p e s m args below meth c H locs cells slots lr F hM hS hc hs hl => lv_if_eq F.1 F.2.1 hd ht (fun h => kt h p e s m args below meth c H locs cells slots lr F hM hS hc hs hl) (fun h => kf h p e s m args below meth c H locs cells slots lr F hM hS hc hs hl)
theorem g_icmp_eq (pc tgt : Nat) {x y : Int32} {off : Int} (hd : decode u.2.1 pc = .ok (.if_icmp .eq off, 3)) (ht : (pc : Int) + off = (tgt : Int)) (kt : x = y → G X l u rm bc bs M tgt ls st Q) (kf : ¬ x = y → G X l u rm bc bs M (pc + 3) ls st Q) : G X l u rm bc bs M pc ls (.int y :: .int x :: st) Q := fun p e s m args below meth c H locs cells slots lr F hM hS hc hs hl => lv_icmp_eq F.1 F.2.1 hd ht (fun h => kt h p e s m args below meth c H locs cells slots lr F hM hS hc hs hl) (fun h => kf h p e s m args below meth c H locs cells slots lr F hM hS hc hs hl)
theorem g_if_ne (pc tgt : Nat) {x : Int32} {off : Int} (hd : decode u.2.1 pc = .ok (.ifCond .ne off, 3)) (ht : (pc : Int) + off = (tgt : Int)) (kt : ¬ x = 0 → G X l u rm bc bs M tgt ls st Q) (kf : x = 0 → G X l u rm bc bs M (pc + 3) ls st Q) : G X l u rm bc bs M pc ls (.int x :: st) Q := fun p e s m args below meth c H locs cells slots lr F hM hS hc hs hl => lv_if_ne F.1 F.2.1 hd ht (fun h => kt h p e s m args below meth c H locs cells slots lr F hM hS hc hs hl) (fun h => kf h p e s m args below meth c H locs cells slots lr F hM hS hc hs hl)
theorem g_icmp_ne (pc tgt : Nat) {x y : Int32} {off : Int} (hd : decode u.2.1 pc = .ok (.if_icmp .ne off, 3)) (ht : (pc : Int) + off = (tgt : Int)) (kt : ¬ x = y → G X l u rm bc bs M tgt ls st Q) (kf : x = y → G X l u rm bc bs M (pc + 3) ls st Q) : G X l u rm bc bs M pc ls (.int y :: .int x :: st) Q := fun p e s m args below meth c H locs cells slots lr F hM hS hc hs hl => lv_icmp_ne F.1 F.2.1 hd ht (fun h => kt h p e s m args below meth c H locs cells slots lr F hM hS hc hs hl) (fun h => kf h p e s m args below meth c H locs cells slots lr F hM hS hc hs hl)
theorem g_if_lt (pc tgt : Nat) {x : Int32} {off : Int} (hd : decode u.2.1 pc = .ok (.ifCond .lt off, 3)) (ht : (pc : Int) + off = (tgt : Int)) (kt : x < 0 → G X l u rm bc bs M tgt ls st Q) (kf : ¬ x < 0 → G X l u rm bc bs M (pc + 3) ls st Q) : G X l u rm bc bs M pc ls (.int x :: st) Q := fun p e s m args below meth c H locs cells slots lr F hM hS hc hs hl => lv_if_lt F.1 F.2.1 hd ht (fun h => kt h p e s m args below meth c H locs cells slots lr F hM hS hc hs hl) (fun h => kf h p e s m args below meth c H locs cells slots lr F hM hS hc hs hl)
theorem g_icmp_lt (pc tgt : Nat) {x y : Int32} {off : Int} (hd : decode u.2.1 pc = .ok (.if_icmp .lt off, 3)) (ht : (pc : Int) + off = (tgt : Int)) (kt : x < y → G X l u rm bc bs M tgt ls st Q) (kf : ¬ x < y → G X l u rm bc bs M (pc + 3) ls st Q) : G X l u rm bc bs M pc ls (.int y :: .int x :: st) Q := fun p e s m args below meth c H locs cells slots lr F hM hS hc hs hl => lv_icmp_lt F.1 F.2.1 hd ht (fun h => kt h p e s m args below meth c H locs cells slots lr F hM hS hc hs hl) (fun h => kf h p e s m args below meth c H locs cells slots lr F hM hS hc hs hl)
theorem g_if_ge (pc tgt : Nat) {x : Int32} {off : Int} (hd : decode u.2.1 pc = .ok (.ifCond .ge off, 3)) (ht : (pc : Int) + off = (tgt : Int)) (kt : 0 ≤ x → G X l u rm bc bs M tgt ls st Q) (kf : ¬ 0 ≤ x → G X l u rm bc bs M (pc + 3) ls st Q) : G X l u rm bc bs M pc ls (.int x :: st) Q := fun p e s m args below meth c H locs cells slots lr F hM hS hc hs hl => lv_if_ge F.1 F.2.1 hd ht (fun h => kt h p e s m args below meth c H locs cells slots lr F hM hS hc hs hl) (fun h => kf h p e s m args below meth c H locs cells slots lr F hM hS hc hs hl)
theorem g_icmp_ge (pc tgt : Nat) {x y : Int32} {off : Int} (hd : decode u.2.1 pc = .ok (.if_icmp .ge off, 3)) (ht : (pc : Int) + off = (tgt : Int)) (kt : y ≤ x → G X l u rm bc bs M tgt ls st Q) (kf : ¬ y ≤ x → G X l u rm bc bs M (pc + 3) ls st Q) : G X l u rm bc bs M pc ls (.int y :: .int x :: st) Q := fun p e s m args below meth c H locs cells slots lr F hM hS hc hs hl => lv_icmp_ge F.1 F.2.1 hd ht (fun h => kt h p e s m args below meth c H locs cells slots lr F hM hS hc hs hl) (fun h => kf h p e s m args below meth c H locs cells slots lr F hM hS hc hs hl)
theorem g_if_gt (pc tgt : Nat) {x : Int32} {off : Int} (hd : decode u.2.1 pc = .ok (.ifCond .gt off, 3)) (ht : (pc : Int) + off = (tgt : Int)) (kt : 0 < x → G X l u rm bc bs M tgt ls st Q) (kf : ¬ 0 < x → G X l u rm bc bs M (pc + 3) ls st Q) : G X l u rm bc bs M pc ls (.int x :: st) Q := fun p e s m args below meth c H locs cells slots lr F hM hS hc hs hl => lv_if_gt F.1 F.2.1 hd ht (fun h => kt h p e s m args below meth c H locs cells slots lr F hM hS hc hs hl) (fun h => kf h p e s m args below meth c H locs cells slots lr F hM hS hc hs hl)
theorem g_icmp_gt (pc tgt : Nat) {x y : Int32} {off : Int} (hd : decode u.2.1 pc = .ok (.if_icmp .gt off, 3)) (ht : (pc : Int) + off = (tgt : Int)) (kt : y < x → G X l u rm bc bs M tgt ls st Q) (kf : ¬ y < x → G X l u rm bc bs M (pc + 3) ls st Q) : G X l u rm bc bs M pc ls (.int y :: .int x :: st) Q := fun p e s m args below meth c H locs cells slots lr F hM hS hc hs hl => lv_icmp_gt F.1 F.2.1 hd ht (fun h => kt h p e s m args below meth c H locs cells slots lr F hM hS hc hs hl) (fun h => kf h p e s m args below meth c H locs cells slots lr F hM hS hc hs hl)
theorem g_if_le (pc tgt : Nat) {x : Int32} {off : Int} (hd : decode u.2.1 pc = .ok (.ifCond .le off, 3)) (ht : (pc : Int) + off = (tgt : Int)) (kt : x ≤ 0 → G X l u rm bc bs M tgt ls st Q) (kf : ¬ x ≤ 0 → G X l u rm bc bs M (pc + 3) ls st Q) : G X l u rm bc bs M pc ls (.int x :: st) Q := fun p e s m args below meth c H locs cells slots lr F hM hS hc hs hl => lv_if_le F.1 F.2.1 hd ht (fun h => kt h p e s m args below meth c H locs cells slots lr F hM hS hc hs hl) (fun h => kf h p e s m args below meth c H locs cells slots lr F hM hS hc hs hl)
theorem g_icmp_le (pc tgt : Nat) {x y : Int32} {off : Int} (hd : decode u.2.1 pc = .ok (.if_icmp .le off, 3)) (ht : (pc : Int) + off = (tgt : Int)) (kt : x ≤ y → G X l u rm bc bs M tgt ls st Q) (kf : ¬ x ≤ y → G X l u rm bc bs M (pc + 3) ls st Q) : G X l u rm bc bs M pc ls (.int y :: .int x :: st) Q := fun p e s m args below meth c H locs cells slots lr F hM hS hc hs hl => lv_icmp_le F.1 F.2.1 hd ht (fun h => kt h p e s m args below meth c H locs cells slots lr F hM hS hc hs hl) (fun h => kf h p e s m args below meth c H locs cells slots lr F hM hS hc hs hl)
theorem g_goto (pc tgt : Nat) {off : Int} (hd : decode u.2.1 pc = .ok (.goto off, 3)) (ht : (pc : Int) + off = (tgt : Int)) (k : G X l u rm bc bs M tgt ls st Q) : G X l u rm bc bs M pc ls st Q := fun p e s m args below meth c H locs cells slots lr F hM hS hc hs hl => lv_goto F.1 F.2.1 hd ht (k p e s m args below meth c H locs cells slots lr F hM hS hc hs hl)
theorem g_ifnull (pc : Nat) {x : Nat} {off : Int} (hd : decode u.2.1 pc = .ok (.ifnull off, 3)) (k : G X l u rm bc bs M (pc + 3) ls st Q) : G X l u rm bc bs M pc ls (.ref x :: st) Q := fun p e s m args below meth c H locs cells slots lr F hM hS hc hs hl => lv_ifnull F.1 F.2.1 hd (k p e s m args below meth c H locs cells slots lr F hM hS hc hs hl)
theorem g_ifnullN (pc tgt : Nat) {off : Int} (hd : decode u.2.1 pc = .ok (.ifnull off, 3)) (ht : (pc : Int) + off = (tgt : Int)) (k : G X l u rm bc bs M tgt ls st Q) : G X l u rm bc bs M pc ls (.null :: st) Q := fun p e s m args below meth c H locs cells slots lr F hM hS hc hs hl => lv_ifnullN F.1 F.2.1 hd ht (k p e s m args below meth c H locs cells slots lr F hM hS hc hs hl)
theorem g_ifnonnull (pc tgt : Nat) {x : Nat} {off : Int} (hd : decode u.2.1 pc = .ok (.ifnonnull off, 3)) (ht : (pc : Int) + off = (tgt : Int)) (k : G X l u rm bc bs M tgt ls st Q) : G X l u rm bc bs M pc ls (.ref x :: st) Q := fun p e s m args below meth c H locs cells slots lr F hM hS hc hs hl => lv_ifnonnull F.1 F.2.1 hd ht (k p e s m args below meth c H locs cells slots lr F hM hS hc hs hl)
theorem g_ifnonnullN (pc : Nat) {off : Int} (hd : decode u.2.1 pc = .ok (.ifnonnull off, 3)) (k : G X l u rm bc bs M (pc + 3) ls st Q) : G X l u rm bc bs M pc ls (.null :: st) Q := fun p e s m args below meth c H locs cells slots lr F hM hS hc hs hl => lv_ifnonnullN F.1 F.2.1 hd (k p e s m args below meth c H locs cells slots lr F hM hS hc hs hl)
theorem g_lookup (pc tgt : Nat) {dflt : Int} {ps : Array (Int × Int)} {len : Nat} {x : Int32} {off : Int} (hd : decode u.2.1 pc = .ok (.lookupswitch dflt ps, len)) (hp : (ps.toList.zip (ps.toList.drop 1)).all (fun (a, next) => a.1 < next.1) = true) (ho : Op.lookupswitch.offset ps.toList dflt x.toInt = off) (ht : (pc : Int) + off = (tgt : Int)) (k : G X l u rm bc bs M tgt ls st Q) : G X l u rm bc bs M pc ls (.int x :: st) Q := fun p e s m args below meth c H locs cells slots lr F hM hS hc hs hl => lv_lookup F.1 F.2.1 hd hp ho ht (k p e s m args below meth c H locs cells slots lr F hM hS hc hs hl)
theorem g_tableOut (pc tgt : Nat) {dflt lo hi : Int} {offs : Array Int} {len : Nat} {x : Int32} (hd : decode u.2.1 pc = .ok (.tableswitch dflt lo hi offs, len)) (h : x.toInt < lo ∨ hi < x.toInt) (ht : (pc : Int) + dflt = (tgt : Int)) (k : G X l u rm bc bs M tgt ls st Q) : G X l u rm bc bs M pc ls (.int x :: st) Q := fun p e s m args below meth c H locs cells slots lr F hM hS hc hs hl => lv_tableOut F.1 F.2.1 hd h ht (k p e s m args below meth c H locs cells slots lr F hM hS hc hs hl)
theorem g_tableIn (pc tgt : Nat) {dflt lo hi : Int} {offs : Array Int} {len : Nat} {x : Int32} {off : Int} (hd : decode u.2.1 pc = .ok (.tableswitch dflt lo hi offs, len)) (h1 : ¬ x.toInt < lo) (h2 : ¬ hi < x.toInt) (ho : offs[(x.toInt - lo).toNat]? = some off) (ht : (pc : Int) + off = (tgt : Int)) (k : G X l u rm bc bs M tgt ls st Q) : G X l u rm bc bs M pc ls (.int x :: st) Q := fun p e s m args below meth c H locs cells slots lr F hM hS hc hs hl => lv_tableIn F.1 F.2.1 hd h1 h2 ho ht (k p e s m args below meth c H locs cells slots lr F hM hS hc hs hl)
theorem g_ldc (pc : Nat) {index : Nat} (v : Int32) (hd : decode u.2.1 pc = .ok (.ldc index, 2)) (hw : Cond.constant u.1.cls index v ∈ gW) (k : G X l u rm bc bs M (pc + 2) ls (.int v :: st) Q) : G X l u rm bc bs M pc ls st Q := fun p e s m args below meth c H locs cells slots lr F hM hS hc hs hl => lv_ldc F.1 F.2.1 F.2.2.2.2.1 (F.2.2.2.2.2.1 _ (List.mem_cons_of_mem _ hw)) hd (k p e s m args below meth c H locs cells slots lr F hM hS hc hs hl)
theorem g_ldc2 (pc : Nat) {index : Nat} (v : Int64) (hd : decode u.2.1 pc = .ok (.ldc2_w index, 3)) (hw : Cond.constantLong u.1.cls index v ∈ gW) (k : G X l u rm bc bs M (pc + 3) ls (.long v :: st) Q) : G X l u rm bc bs M pc ls st Q := fun p e s m args below meth c H locs cells slots lr F hM hS hc hs hl => lv_ldc2 F.1 F.2.1 F.2.2.2.2.1 (F.2.2.2.2.2.1 _ (List.mem_cons_of_mem _ hw)) hd (k p e s m args below meth c H locs cells slots lr F hM hS hc hs hl)
theorem Fx.end {X : mX} {u : mU} {p : Program} {s : State} {m : MethodId} {args : Array Value} {meth : Method} {c : Code} {M : mM} {H : Heap} {locs : List Loc} {Q : Option Value → mM → Prop} {r : Option Value} (F : Fx X u p s m args meth c) (hM : Sm X M H) (hS : va_S (xA X) s.heap H locs) (hq : Q r M) : ∀ t : State, t.heap = H → s.WarmedH t.vm → mQc X Q args s (.returned (r.map (rel X))) t := by
  intro t ht hW
  subst ht
  exact ⟨⟨r, M, rfl, hq, hM, F.2.2.2.2.2.2.2.2.1.mv hW hS⟩, hS.F rfl⟩
theorem g_iret (pc : Nat) {x : Int32} (hd : decode u.2.1 pc = .ok (.ireturn, 1)) (hr : u.2.2.2 = some .int) (hq : Q (some (.int x)) M) : G X l u rm bc bs M pc ls [.int x] Q := by
  intro p e s m args below meth c H locs cells slots lr F hM hS hc hs hl
  refine W.widen (k := rm.cells) (n := rm.slots) (by omega) (by omega) ?_
  exact W.iret F.1 F.2.1 (F.2.2.1.trans hr) (F.end (r := some (.int x)) hM hS hq) hS.2.2 hd F.2.2.2.2.2.2.1
theorem g_zret (pc : Nat) {x : Int32} (hd : decode u.2.1 pc = .ok (.ireturn, 1)) (hr : u.2.2.2 = some .boolean) (hz : x = 0 ∨ x = 1) (hq : Q (some (.int x)) M) : G X l u rm bc bs M pc ls [.int x] Q := by
  intro p e s m args below meth c H locs cells slots lr F hM hS hc hs hl
  refine W.widen (k := rm.cells) (n := rm.slots) (by omega) (by omega) ?_
  exact W.zret F.1 F.2.1 (F.2.2.1.trans hr) (by rcases hz with rfl | rfl <;> rfl) (F.end (r := some (.int x)) hM hS hq) hS.2.2 hd F.2.2.2.2.2.2.1
theorem g_lret (pc : Nat) {x : Int64} (hd : decode u.2.1 pc = .ok (.lreturn, 1)) (hr : u.2.2.2 = some .long) (hq : Q (some (.long x)) M) : G X l u rm bc bs M pc ls [.long x] Q := by
  intro p e s m args below meth c H locs cells slots lr F hM hS hc hs hl
  refine W.widen (k := rm.cells) (n := rm.slots) (by omega) (by omega) ?_
  exact W.lret F.1 F.2.1 (F.2.2.1.trans hr) (F.end (r := some (.long x)) hM hS hq) hS.2.2 hd F.2.2.2.2.2.2.1
theorem g_vret (pc : Nat)  (hd : decode u.2.1 pc = .ok (.return_, 1)) (hr : u.2.2.2 = none) (hq : Q (none) M) : G X l u rm bc bs M pc ls [] Q := by
  intro p e s m args below meth c H locs cells slots lr F hM hS hc hs hl
  refine W.widen (k := rm.cells) (n := rm.slots) (by omega) (by omega) ?_
  exact W.vret F.1 F.2.1 (F.2.2.1.trans hr) (F.end (r := none) hM hS hq) hS.2.2 hd F.2.2.2.2.2.2.1
theorem g_aret (pc : Nat) {x : Nat} {rt : FieldType} (hd : decode u.2.1 pc = .ok (.areturn, 1)) (hr : u.2.2.2 = some rt) (hrt : (∃ n, rt = .object n) ∨ ∃ t, rt = .array t) (hq : Q (some (.ref x)) M) : G X l u rm bc bs M pc ls [.ref x] Q := by
  intro p e s m args below meth c H locs cells slots lr F hM hS hc hs hl
  refine W.widen (k := rm.cells) (n := rm.slots) (by omega) (by omega) ?_
  exact W.aret F.1 F.2.1 (F.2.2.1.trans hr) hrt (Or.inr ⟨_, rfl⟩) (F.end (r := some (.ref x)) hM hS hq) hS.2.2 hd F.2.2.2.2.2.2.1
theorem g_aretN (pc : Nat) {rt : FieldType} (hd : decode u.2.1 pc = .ok (.areturn, 1)) (hr : u.2.2.2 = some rt) (hrt : (∃ n, rt = .object n) ∨ ∃ t, rt = .array t) (hq : Q (some .null) M) : G X l u rm bc bs M pc ls [.null] Q := by
  intro p e s m args below meth c H locs cells slots lr F hM hS hc hs hl
  refine W.widen (k := rm.cells) (n := rm.slots) (by omega) (by omega) ?_
  exact W.aret F.1 F.2.1 (F.2.2.1.trans hr) hrt (Or.inl rfl) (F.end (r := some .null) hM hS hq) hS.2.2 hd F.2.2.2.2.2.2.1
end GR
end
section
/-! ===== cells: reading, writing, making ===== -/
theorem Sm.alloc {X : mX} {M : mM} {H : Heap} (h : Sm X M H) {a : Nat} (ha : (mT M a).1 ≠ 999) : 3 ≤ a ∧ a < mN M := Classical.byContradiction fun q => ha (h.2.2.1 a q)
theorem adr_own (X : mX) {a : Nat} (h : 3 ≤ a) : adr X a = xB X + (a - 3) := if_neg (by omega)
theorem adr_ne (X : mX) {a b : Nat} (ha : 3 ≤ a) (hb : 3 ≤ b) (h : b ≠ a) : adr X b ≠ adr X a := by
  rw [adr_own X ha, adr_own X hb]; omega
theorem adr_new {X : mX} {M : mM} {H : Heap} (h : Sm X M H) : adr X (mN M) = H.size := by
  rw [adr_own X h.2.1]; have := h.1; have := h.2.1; omega
theorem mAt.kept {X : mX} {M M' : mM} {H H' : Heap} {a : Nat} (h : mAt X M H a) (hT : mT M' a = mT M a) (hv : vv X M' a = vv X M a) (hH : H'[adr X a]? = H[adr X a]?) : mAt X M' H' a := by
  unfold mAt
  rw [hT, hv]
  refine ⟨fun q => ?_, fun q => ?_⟩
  · obtain ⟨r, h1, h2⟩ := h.1 q
    exact ⟨r, h1, h2.kept hH⟩
  · rw [hH]; exact h.2 q
/-- one cell has changed -/
theorem Sm.put {X : mX} {M M' : mM} {H H' : Heap} {a : Nat} (h : Sm X M H) (ha : 3 ≤ a) (hN : mN M' = mN M) (hT : mT M' = mT M) (hv : ∀ b, b ≠ a → vv X M' b = vv X M b) (hz : H'.size = H.size) (hk : ∀ q, q ≠ adr X a → H'[q]? = H[q]?) (hc : mAt X M' H' a) : Sm X M' H' := by
  refine ⟨by rw [hz, hN]; exact h.1, by rw [hN]; exact h.2.1, fun b hb => by rw [hT]; exact h.2.2.1 b (by rw [hN] at hb; exact hb), fun b h3 hb => ?_⟩
  by_cases e : b = a
  · subst e; exact hc
  · exact (h.2.2.2 b h3 (by rw [hN] at hb; exact hb)).kept (by rw [hT]) (hv b e) (hk _ (adr_ne X ha h3 e))
theorem vk_0 {n : Nat} {x : Int32} {y : Int64} {o : Option Nat} (h : n = 0) : vk n x y o = .int x := if_pos h
theorem vk_1 {n : Nat} {x : Int32} {y : Int64} {o : Option Nat} (h : n = 1) : vk n x y o = .long y := by unfold vk; rw [if_neg (by omega), if_pos h]
theorem vk_2 {n : Nat} {x : Int32} {y : Int64} {o : Option Nat} (h : n = 2) : vk n x y o = va_rf o := by unfold vk; rw [if_neg (by omega), if_neg (by omega)]
theorem vv_i {X : mX} {M : mM} {a k t : Nat} (hT : (mT M a).1 = t) (h : fk t k = 0) : vv X M a k = .int (mI M a k) := vk_0 (by rw [hT]; exact h)
theorem vv_l {X : mX} {M : mM} {a k t : Nat} (hT : (mT M a).1 = t) (h : fk t k = 1) : vv X M a k = .long (mL M a k) := vk_1 (by rw [hT]; exact h)
theorem vv_r {X : mX} {M : mM} {a k t : Nat} (hT : (mT M a).1 = t) (h : fk t k = 2) : vv X M a k = va_rf ((mR M a k).map (adr X)) := vk_2 (by rw [hT]; exact h)
theorem vv_setI_ne {X : mX} {M : mM} {a k b : Nat} {x : Int32} (h : b ≠ a) : vv X (setI M a k x) b = vv X M b := by
  funext j
  show vk (fk (mT M b).1 j) (up2 (mI M) a k x b j) (mL M b j) ((mR M b j).map (adr X)) = vv X M b j
  rw [up2_ne (fun q => h q.1)]
  rfl
theorem vv_setI {X : mX} {M : mM} {a k t : Nat} {x : Int32} (hT : (mT M a).1 = t) (h : fk t k = 0) : vv X (setI M a k x) a = updV (vv X M a) k (.int x) := by
  funext j
  by_cases e : j = k
  · subst e
    rw [vv_i (M := setI M a j x) hT h]
    show _ = if j = j then _ else _
    rw [if_pos rfl]
    show Value.int (up2 (mI M) a j x a j) = _
    rw [up2_same]
  · show vk (fk (mT M a).1 j) (up2 (mI M) a k x a j) (mL M a j) ((mR M a j).map (adr X)) = if j = k then _ else vv X M a j
    rw [if_neg e, up2_ne (fun q => e q.2)]
    rfl
theorem vv_setL_ne {X : mX} {M : mM} {a k b : Nat} {x : Int64} (h : b ≠ a) : vv X (setL M a k x) b = vv X M b := by
  funext j
  show vk (fk (mT M b).1 j) (mI M b j) (up2 (mL M) a k x b j) ((mR M b j).map (adr X)) = vv X M b j
  rw [up2_ne (fun q => h q.1)]
  rfl
theorem vv_setL {X : mX} {M : mM} {a k t : Nat} {x : Int64} (hT : (mT M a).1 = t) (h : fk t k = 1) : vv X (setL M a k x) a = updV (vv X M a) k (.long x) := by
  funext j
  by_cases e : j = k
  · subst e
    rw [vv_l (M := setL M a j x) hT h]
    show _ = if j = j then _ else _
    rw [if_pos rfl]
    show Value.long (up2 (mL M) a j x a j) = _
    rw [up2_same]
  · show vk (fk (mT M a).1 j) (mI M a j) (up2 (mL M) a k x a j) ((mR M a j).map (adr X)) = if j = k then _ else vv X M a j
    rw [if_neg e, up2_ne (fun q => e q.2)]
    rfl
theorem vv_setR_ne {X : mX} {M : mM} {a k b : Nat} {x : Option Nat} (h : b ≠ a) : vv X (setR M a k x) b = vv X M b := by
  funext j
  show vk (fk (mT M b).1 j) (mI M b j) (mL M b j) ((up2 (mR M) a k x b j).map (adr X)) = vv X M b j
  rw [up2_ne (fun q => h q.1)]
  rfl
theorem vv_setR {X : mX} {M : mM} {a k t : Nat} {x : Option Nat} (hT : (mT M a).1 = t) (h : fk t k = 2) : vv X (setR M a k x) a = updV (vv X M a) k (va_rf (x.map (adr X))) := by
  funext j
  by_cases e : j = k
  · subst e
    rw [vv_r (M := setR M a j x) hT h]
    show _ = if j = j then _ else _
    rw [if_pos rfl]
    show va_rf ((up2 (mR M) a j x a j).map (adr X)) = _
    rw [up2_same]
  · show vk (fk (mT M a).1 j) (mI M a j) (mL M a j) ((up2 (mR M) a k x a j).map (adr X)) = if j = k then _ else vv X M a j
    rw [if_neg e, up2_ne (fun q => e q.2)]
    rfl
/-! fields -/
def tk : FieldType → Nat
  | .long => 1
  | .object _ => 2
  | .array _ => 2
  | .float => 9
  | .double => 9
  | _ => 0
/-- a class of ours: its place, name, fields, and what the tables say of them -/
def cF (ci : Nat) (C : String) (T : u_T) (N : Nat) : Prop := ci < 100 ∧ vwCl[ci]? = some (C, T, N) ∧ (∀ w ∈ u_ws C T N, w ∈ gW) ∧ (∀ a, a < N → ∀ b, b < N → a ≠ b → (T a).2.1 ≠ (T b).2.1) ∧ ∃ ty : Nat → FieldType, ∀ k, k < N → parseFieldDescriptor (T k).2.2.1 = some (ty k) ∧ tk (ty k) = fk ci k
/-- a place where a field of class ci is named: by a class's own link or by a nest mate's -/
def fS (own : String) (idx ci k : Nat) : Prop := ∃ (C : String) (T : u_T) (N : Nat), cF ci C T N ∧ k < N ∧ (Cond.fieldLink own idx (T k).1 (T k).2.1 (T k).2.2.1 ∈ gW ∨ ∃ host, Cond.fieldLinkNest own idx (T k).1 (T k).2.1 (T k).2.2.1 host ∈ gN)
/-- .. and written, in the method of name nm; ty its type -/
def pS (own nm : String) (idx ci k : Nat) (ty : FieldType) : Prop := ∃ (C : String) (T : u_T) (N : Nat), cF ci C T N ∧ k < N ∧ parseFieldDescriptor (T k).2.2.1 = some ty ∧
  (((T k).2.2.2 = false ∧ (Cond.fieldLink own idx (T k).1 (T k).2.1 (T k).2.2.1 ∈ gW ∨ ∃ host, Cond.fieldLinkNest own idx (T k).1 (T k).2.1 (T k).2.2.1 host ∈ gN)) ∨ ((T k).2.2.2 = true ∧ nm = "<init>" ∧ (T k).1 = own ∧ Cond.fieldLink own idx (T k).1 (T k).2.1 (T k).2.2.1 ∈ gW))
section GH
variable {X : mX} {l : Launch} {u : mU} {rm : Room} {p : Program} {e : Env} {s : State} {m : MethodId} {args : Array Value} {below : List Frame} {meth : Method} {c : Code} {H : Heap} {locs : List Loc} {cells slots : Nat} {Qs : State → Prop} {M : mM} {pc : Nat} {lr : Array Slot} {rest : List Value}
theorem h_get (F : Fx X u p s m args meth c) (hM : Sm X M H) {a ci k idx : Nat} (hT : (mT M a).1 = ci) (hs : fS u.1.cls idx ci k) (hd : decode u.2.1 pc = .ok (.getfield idx, 3))
    (kk : W p l e rm s m args below meth c H locs cells slots Qs (F0 m (pc + 3) lr (vv X M a k :: rest))) : W p l e rm s m args below meth c H locs cells slots Qs (F0 m pc lr (.ref (adr X a) :: rest)) := by
  obtain ⟨C, T, N, ⟨hci, hcl, hin, hnm, ty, hty⟩, hk, hlk⟩ := hs
  obtain ⟨h3, hlt⟩ := hM.alloc (a := a) (by rw [hT]; omega)
  obtain ⟨r, h1, cell, q1, q2, q3, q4⟩ := (hM.2.2.2 a h3 hlt).1 (by rw [hT]; exact hci)
  rw [hT] at h1 q2 q4
  have hr : r = (C, T, N) := Option.some.inj (h1.symm.trans hcl)
  subst hr
  obtain ⟨hx, hb, -, -, hown, hts, -, -, hO, -⟩ := F
  obtain ⟨hS1, hfc, kC, hkC, hkind⟩ := hO.1.1 ci _ hcl
  obtain ⟨cf, kf, fi, f, hi, hsl⟩ := hS1 k hk
  have hst := (u_facts hfc hkC (u_lays hts (fun w h => List.mem_cons_of_mem _ (hin w h)) hk) hi).1
  have hv : cell.slots[f.slot]? = some (vv X M a k) := by rw [hsl]; exact q4 k hk
  rcases hlk with hlk | ⟨host, hlk⟩
  · exact W.getf hx hb hown (hts _ (List.mem_cons_of_mem _ hlk)) hi hst q1 (by rw [q3]; exact fun h => by cases h) hv rfl rfl hd kk
  · exact va_Wgetf hx hb hown (va_Nw.use (gN_tab hlk) (hO.2.1 _ hlk)) hi hst q1 (by rw [q3]; exact fun h => by cases h) hv rfl rfl hd kk
theorem h_put (F : Fx X u p s m args meth c) (hM : Sm X M H) (hS : va_S (xA X) s.heap H locs) {a ci k idx : Nat} {ty : FieldType} {v : Value} {M' : mM} (hT : (mT M a).1 = ci) (hs : pS u.1.cls u.1.name idx ci k ty) (hn : narrow ty v = v) (hf : fits ty v = true) (hd : decode u.2.1 pc = .ok (.putfield idx, 3))
    (hN : mN M' = mN M) (hT' : mT M' = mT M) (hv : ∀ b, b ≠ a → vv X M' b = vv X M b) (hva : vv X M' a = updV (vv X M a) k v)
    (kk : ∀ (H1 : Heap) (locs1 : List Loc), Sm X M' H1 → va_S (xA X) s.heap H1 locs1 → W p l e rm s m args below meth c H1 locs1 cells slots Qs (F0 m (pc + 3) lr rest)) : W p l e rm s m args below meth c H locs cells slots Qs (F0 m pc lr (v :: .ref (adr X a) :: rest)) := by
  obtain ⟨C, T, N, ⟨hci, hcl, hin, hnm, ty0, hty⟩, hk, hpd, hlk⟩ := hs
  obtain ⟨h3, hlt⟩ := hM.alloc (a := a) (by rw [hT]; omega)
  obtain ⟨r, h1, cell, q1, q2, q3, q4⟩ := (hM.2.2.2 a h3 hlt).1 (by rw [hT]; exact hci)
  rw [hT] at h1 q2 q4
  have hr : r = (C, T, N) := Option.some.inj (h1.symm.trans hcl)
  subst hr
  obtain ⟨hx, hb, -, -, hown, hts, -, hname, hO, -⟩ := F
  have hin' : ∀ w ∈ u_ws C T N, w ∈ wC u :: gW := fun w h => List.mem_cons_of_mem _ (hin w h)
  have hap := va_apart (own := u.1.cls) hts hin' ty0 (fun k hk => (hty k hk).1) hnm hO.1 hcl
  obtain ⟨hS1, hfc, kC, hkC, hkind⟩ := hO.1.1 ci _ hcl
  obtain ⟨cf, kf, fi, f, hi, hsl⟩ := hS1 k hk
  have hst := (u_facts hfc hkC (u_lays hts hin' hk) hi).1
  have hlay := hts _ (hin' _ (u_in_lay hk))
  have hA : xA X (adr X a) := by show xB X ≤ _; rw [adr_own X h3]; omega
  have fin : ∀ H' : Heap, H'[adr X a]? = some (cell.setSlot f.slot v) → H'.size = H.size → (∀ q, q ≠ adr X a → H'[q]? = H[q]?) → W p l e rm s m args below meth c H' (locs ++ [⟨adr X a, f.slot⟩]) cells slots Qs (F0 m (pc + 3) lr rest) := by
    intro H' e1 e2 e3
    refine kk H' _ (hM.put h3 hN hT' hv e2 e3 ⟨fun _ => ⟨(C, T, N), ?_, ?_⟩, fun q => absurd (show (mT M' a).1 < 100 by rw [hT', hT]; exact hci) q⟩) (hS.put e2 e3 hA)
    · rw [hT', hT]; exact hcl
    · rw [hT', hT, hva]
      rw [hsl] at e1
      exact ⟨_, e1, q2, q3, t_set q4 hap hk v⟩
  rcases hlk with ⟨hfin, hlk⟩ | ⟨hfin, hnm2, hdecl, hlk⟩
  · unfold u_lay at hlay
    rw [if_neg (by rw [hfin]; decide)] at hlay
    have h6 := u_store hfc hkC hkind hlay hi hpd hn hf
    rcases hlk with hlk | ⟨host, hlk⟩
    · exact W.putK hx hb (f := f) ⟨hown, hts _ (List.mem_cons_of_mem _ hlk), ⟨_, _, _, hi⟩, hst⟩ (by rw [q2]; exact h6) q1 q3 (by rw [hsl]; exact k2_hasslot (q4 k hk)) rfl rfl hd fin
    · exact va_WputK hx hb (f := f) hown (va_Nw.use (gN_tab hlk) (hO.2.1 _ hlk)) hi hst (by rw [q2]; exact h6) q1 q3 (by rw [hsl]; exact k2_hasslot (q4 k hk)) rfl rfl hd fin
  · unfold u_lay at hlay
    rw [if_pos hfin] at hlay
    have hcf : m.cls = cf := by
      obtain ⟨_, _, c', _, _, _, -, -, hf', -, -, -, hown2, -⟩ := Cond.laysFinal_spec hlay
      have e1 : c' = cf := by have := hi.symm.trans hf'; simp at this; exact this.1.symm
      rw [hdecl] at hown2
      rw [← e1]; exact Option.some.inj (hown.symm.trans hown2)
    have h6 := u_fits hfc hkC hkind (Or.inr hlay) hi hpd hn hf
    exact W.putFinK hx hb hown (hts _ (List.mem_cons_of_mem _ hlk)) hi hst hcf (hname.trans hnm2) (by rw [q2]; exact h6) q1 q3 (by rw [hsl]; exact k2_hasslot (q4 k hk)) rfl rfl hd fin
end GH
section GF
variable {X : mX} {l : Launch} {u : mU} {rm : Room} {bc bs : Nat} {M : mM} {ls : List (Option Value)} {st : List Value} {Q : Option Value → mM → Prop}
theorem g_geti (pc : Nat) {a idx : Nat} (ci k : Nat) (hd : decode u.2.1 pc = .ok (.getfield idx, 3)) (hs : fS u.1.cls idx ci k) (hk : fk ci k = 0) (hT : (mT M a).1 = ci) (kk : G X l u rm bc bs M (pc + 3) ls (.int (mI M a k) :: st) Q) : G X l u rm bc bs M pc ls (.ref a :: st) Q :=
  fun p e s m args below meth c H locs cells slots lr F hM hS hc hs' hl => h_get F hM hT hs hd (by rw [vv_i hT hk]; exact kk p e s m args below meth c H locs cells slots lr F hM hS hc hs' hl)
theorem g_getl (pc : Nat) {a idx : Nat} (ci k : Nat) (hd : decode u.2.1 pc = .ok (.getfield idx, 3)) (hs : fS u.1.cls idx ci k) (hk : fk ci k = 1) (hT : (mT M a).1 = ci) (kk : G X l u rm bc bs M (pc + 3) ls (.long (mL M a k) :: st) Q) : G X l u rm bc bs M pc ls (.ref a :: st) Q :=
  fun p e s m args below meth c H locs cells slots lr F hM hS hc hs' hl => h_get F hM hT hs hd (by rw [vv_l hT hk]; exact kk p e s m args below meth c H locs cells slots lr F hM hS hc hs' hl)
theorem g_getr (pc : Nat) {a idx b : Nat} (ci k : Nat) (hd : decode u.2.1 pc = .ok (.getfield idx, 3)) (hs : fS u.1.cls idx ci k) (hk : fk ci k = 2) (hT : (mT M a).1 = ci) (hr : mR M a k = some b) (kk : G X l u rm bc bs M (pc + 3) ls (.ref b :: st) Q) : G X l u rm bc bs M pc ls (.ref a :: st) Q :=
  fun p e s m args below meth c H locs cells slots lr F hM hS hc hs' hl => h_get F hM hT hs hd (by rw [vv_r hT hk, hr]; exact kk p e s m args below meth c H locs cells slots lr F hM hS hc hs' hl)
theorem g_getN (pc : Nat) {a idx : Nat} (ci k : Nat) (hd : decode u.2.1 pc = .ok (.getfield idx, 3)) (hs : fS u.1.cls idx ci k) (hk : fk ci k = 2) (hT : (mT M a).1 = ci) (hr : mR M a k = none) (kk : G X l u rm bc bs M (pc + 3) ls (.null :: st) Q) : G X l u rm bc bs M pc ls (.ref a :: st) Q :=
  fun p e s m args below meth c H locs cells slots lr F hM hS hc hs' hl => h_get F hM hT hs hd (by rw [vv_r hT hk, hr]; exact kk p e s m args below meth c H locs cells slots lr F hM hS hc hs' hl)
theorem g_puti (pc : Nat) {a idx : Nat} {x : Int32} (ci k : Nat) (hd : decode u.2.1 pc = .ok (.putfield idx, 3)) (hs : pS u.1.cls u.1.name idx ci k .int) (hk : fk ci k = 0) (hT : (mT M a).1 = ci) (kk : G X l u rm bc bs (setI M a k x) (pc + 3) ls st Q) : G X l u rm bc bs M pc ls (.int x :: .ref a :: st) Q :=
  fun p e s m args below meth c H locs cells slots lr F hM hS hc hs' hl => h_put (v := .int x) (M' := setI M a k x) F hM hS hT hs rfl rfl hd rfl rfl (fun _ h => vv_setI_ne h) (vv_setI hT hk) (fun H1 locs1 hM1 hS1 => kk p e s m args below meth c H1 locs1 cells slots lr F hM1 hS1 hc hs' hl)
theorem g_putz (pc : Nat) {a idx : Nat} {x : Int32} (ci k : Nat) (hd : decode u.2.1 pc = .ok (.putfield idx, 3)) (hs : pS u.1.cls u.1.name idx ci k .boolean) (hk : fk ci k = 0) (hz : x = 0 ∨ x = 1) (hT : (mT M a).1 = ci) (kk : G X l u rm bc bs (setI M a k x) (pc + 3) ls st Q) : G X l u rm bc bs M pc ls (.int x :: .ref a :: st) Q :=
  fun p e s m args below meth c H locs cells slots lr F hM hS hc hs' hl => h_put (v := .int x) (M' := setI M a k x) F hM hS hT hs (by rcases hz with rfl | rfl <;> rfl) (by rcases hz with rfl | rfl <;> rfl) hd rfl rfl (fun _ h => vv_setI_ne h) (vv_setI hT hk) (fun H1 locs1 hM1 hS1 => kk p e s m args below meth c H1 locs1 cells slots lr F hM1 hS1 hc hs' hl)
theorem g_putl (pc : Nat) {a idx : Nat} {x : Int64} (ci k : Nat) (hd : decode u.2.1 pc = .ok (.putfield idx, 3)) (hs : pS u.1.cls u.1.name idx ci k .long) (hk : fk ci k = 1) (hT : (mT M a).1 = ci) (kk : G X l u rm bc bs (setL M a k x) (pc + 3) ls st Q) : G X l u rm bc bs M pc ls (.long x :: .ref a :: st) Q :=
  fun p e s m args below meth c H locs cells slots lr F hM hS hc hs' hl => h_put (v := .long x) (M' := setL M a k x) F hM hS hT hs rfl rfl hd rfl rfl (fun _ h => vv_setL_ne h) (vv_setL hT hk) (fun H1 locs1 hM1 hS1 => kk p e s m args below meth c H1 locs1 cells slots lr F hM1 hS1 hc hs' hl)
def isRT : FieldType → Bool
  | .object _ => true
  | .array _ => true
  | _ => false
theorem isRT_n {ty : FieldType} (h : isRT ty = true) (o : Option Nat) : narrow ty (va_rf o) = va_rf o ∧ fits ty (va_rf o) = true := by
  cases ty <;> first | (cases h; done) | (cases o <;> exact ⟨rfl, rfl⟩)
theorem g_putr (pc : Nat) {a idx b : Nat} (ci k : Nat) {ty : FieldType} (hd : decode u.2.1 pc = .ok (.putfield idx, 3)) (hs : pS u.1.cls u.1.name idx ci k ty) (hk : fk ci k = 2) (hty : isRT ty = true) (hT : (mT M a).1 = ci) (kk : G X l u rm bc bs (setR M a k (some b)) (pc + 3) ls st Q) : G X l u rm bc bs M pc ls (.ref b :: .ref a :: st) Q :=
  fun p e s m args below meth c H locs cells slots lr F hM hS hc hs' hl => h_put (v := .ref (adr X b)) (M' := setR M a k (some b)) F hM hS hT hs (isRT_n hty (some (adr X b))).1 (isRT_n hty (some (adr X b))).2 hd rfl rfl (fun _ h => vv_setR_ne h) (vv_setR hT hk) (fun H1 locs1 hM1 hS1 => kk p e s m args below meth c H1 locs1 cells slots lr F hM1 hS1 hc hs' hl)
theorem g_putN (pc : Nat) {a idx : Nat} (ci k : Nat) {ty : FieldType} (hd : decode u.2.1 pc = .ok (.putfield idx, 3)) (hs : pS u.1.cls u.1.name idx ci k ty) (hk : fk ci k = 2) (hty : isRT ty = true) (hT : (mT M a).1 = ci) (kk : G X l u rm bc bs (setR M a k none) (pc + 3) ls st Q) : G X l u rm bc bs M pc ls (.null :: .ref a :: st) Q :=
  fun p e s m args below meth c H locs cells slots lr F hM hS hc hs' hl => h_put (v := .null) (M' := setR M a k none) F hM hS hT hs (isRT_n hty none).1 (isRT_n hty none).2 hd rfl rfl (fun _ h => vv_setR_ne h) (vv_setR hT hk) (fun H1 locs1 hM1 hS1 => kk p e s m args below meth c H1 locs1 cells slots lr F hM1 hS1 hc hs' hl)
end GF
end
section
/-! ===== arrays ===== -/
section GA0
variable {X : mX} {l : Launch} {u : mU} {p : Program} {s : State} {m : MethodId} {args : Array Value} {meth : Method} {c : Code} {H H' : Heap} {M M' : mM}
theorem h_cell (hM : Sm X M H) {a t n : Nat} (hT : mT M a = (100 + t, n)) (ht : t < 100) : 3 ≤ a ∧ H[adr X a]? = some (arrV (xK X (100 + t)) n (vv X M a)) := by
  obtain ⟨h3, hlt⟩ := hM.alloc (a := a) (by rw [hT]; show 100 + t ≠ 999; omega)
  have h := (hM.2.2.2 a h3 hlt).2 (by rw [hT]; show ¬ 100 + t < 100; omega)
  rw [hT] at h
  exact ⟨h3, h⟩
theorem h_arr (F : Fx X u p s m args meth c) {t n : Nat} {ty : FieldType} (ht : (mTys X)[t]? = some (xK X (100 + t), ty)) (f : Nat → Value) : s.isArrayOf (arrV (xK X (100 + t)) n f) ty := (F.2.2.2.2.2.2.2.2.1.1.2 t _ ht).1 n f
theorem h_aput (hM : Sm X M H) {a t n j : Nat} {w : Value} (hT : mT M a = (100 + t, n)) (ht : t < 100) (hN : mN M' = mN M) (hT' : mT M' = mT M) (hv : ∀ b, b ≠ a → vv X M' b = vv X M b) (hva : vv X M' a = updV (vv X M a) j w)
    (e : H'[adr X a]? = some ((arrV (xK X (100 + t)) n (vv X M a)).setSlot j w)) (z : H'.size = H.size) (o : ∀ q, q ≠ adr X a → H'[q]? = H[q]?) : Sm X M' H' := by
  refine hM.put (h_cell hM hT ht).1 hN hT' hv z o ⟨fun q => absurd q (by rw [hT', hT]; show ¬ 100 + t < 100; omega), fun _ => ?_⟩
  rw [e, arrV_store, hT', hT, hva]
theorem h_A {a : Nat} (h3 : 3 ≤ a) : xA X (adr X a) := by show xB X ≤ _; rw [adr_own X h3]; omega
end GA0
section GA
variable {X : mX} {l : Launch} {u : mU} {rm : Room} {bc bs : Nat} {M : mM} {ls : List (Option Value)} {st : List Value} {Q : Option Value → mM → Prop}
theorem g_iald (pc : Nat) {a n : Nat} {i : Int32} (hd : decode u.2.1 pc = .ok (.iaload, 1)) (hT : mT M a = (100, n)) (hi : vp_in i n) (kk : G X l u rm bc bs M (pc + 1) ls (.int (mI M a i.toNatClampNeg) :: st) Q) : G X l u rm bc bs M pc ls (.int i :: .ref a :: st) Q := by
  intro p e s m args below meth c H locs cells slots lr F hM hS hc hs hl
  have hlt : i.toNatClampNeg < n := Nat.not_le.mp fun q => hi (Or.inr q)
  refine W.iald (v := vv X M a i.toNatClampNeg) F.1 F.2.1 (h_cell hM (t := 0) hT (by decide)).2 (h_arr F (t := 0) rfl _) (fun q => by cases q) (by rw [arrV_size]; exact hi) (arrV_read _ _ hlt) rfl rfl hd ?_
  rw [vv_i (t := 100) (by rw [hT]) rfl]
  exact kk p e s m args below meth c H locs cells slots lr F hM hS hc hs hl
theorem g_bald (pc : Nat) {a n : Nat} {i : Int32} (hd : decode u.2.1 pc = .ok (.baload, 1)) (hT : mT M a = (101, n)) (hi : vp_in i n) (kk : G X l u rm bc bs M (pc + 1) ls (.int (mI M a i.toNatClampNeg) :: st) Q) : G X l u rm bc bs M pc ls (.int i :: .ref a :: st) Q := by
  intro p e s m args below meth c H locs cells slots lr F hM hS hc hs hl
  have hlt : i.toNatClampNeg < n := Nat.not_le.mp fun q => hi (Or.inr q)
  refine W.bald (v := vv X M a i.toNatClampNeg) F.1 F.2.1 (h_cell hM (t := 1) hT (by decide)).2 (h_arr F (t := 1) rfl _) (fun q => by cases q) (by rw [arrV_size]; exact hi) (arrV_read _ _ hlt) rfl rfl hd ?_
  rw [vv_i (t := 101) (by rw [hT]) rfl]
  exact kk p e s m args below meth c H locs cells slots lr F hM hS hc hs hl
theorem g_zald (pc : Nat) {a n : Nat} {i : Int32} (hd : decode u.2.1 pc = .ok (.baload, 1)) (hT : mT M a = (102, n)) (hi : vp_in i n) (kk : G X l u rm bc bs M (pc + 1) ls (.int (mI M a i.toNatClampNeg) :: st) Q) : G X l u rm bc bs M pc ls (.int i :: .ref a :: st) Q := by
  intro p e s m args below meth c H locs cells slots lr F hM hS hc hs hl
  have hlt : i.toNatClampNeg < n := Nat.not_le.mp fun q => hi (Or.inr q)
  refine W.zald (v := vv X M a i.toNatClampNeg) F.1 F.2.1 (h_cell hM (t := 2) hT (by decide)).2 (h_arr F (t := 2) rfl _) (fun q => by cases q) (by rw [arrV_size]; exact hi) (arrV_read _ _ hlt) rfl rfl hd ?_
  rw [vv_i (t := 102) (by rw [hT]) rfl]
  exact kk p e s m args below meth c H locs cells slots lr F hM hS hc hs hl
theorem g_lald (pc : Nat) {a n : Nat} {i : Int32} (hd : decode u.2.1 pc = .ok (.laload, 1)) (hT : mT M a = (103, n)) (hi : vp_in i n) (kk : G X l u rm bc bs M (pc + 1) ls (.long (mL M a i.toNatClampNeg) :: st) Q) : G X l u rm bc bs M pc ls (.int i :: .ref a :: st) Q := by
  intro p e s m args below meth c H locs cells slots lr F hM hS hc hs hl
  have hlt : i.toNatClampNeg < n := Nat.not_le.mp fun q => hi (Or.inr q)
  refine W.lald (v := vv X M a i.toNatClampNeg) F.1 F.2.1 (h_cell hM (t := 3) hT (by decide)).2 (h_arr F (t := 3) rfl _) (fun q => by cases q) (by rw [arrV_size]; exact hi) (arrV_read _ _ hlt) rfl rfl hd ?_
  rw [vv_l (t := 103) (by rw [hT]) rfl]
  exact kk p e s m args below meth c H locs cells slots lr F hM hS hc hs hl
theorem fk_ref {t : Nat} (h4 : 4 ≤ t) (k : Nat) : fk (100 + t) k = 2 := by
  unfold fk
  rw [if_neg (by omega), if_neg (by omega), if_neg (by omega)]
/-- an element of an array of references; o: what it is -/
theorem g_aald (pc : Nat) {a n : Nat} {i : Int32} (t : Nat) {o : Option Nat} {C : String} (hd : decode u.2.1 pc = .ok (.aaload, 1)) (ht : (mTys X)[t]? = some (xK X (100 + t), .object C)) (h4 : 4 ≤ t) (hT : mT M a = (100 + t, n)) (hi : vp_in i n) (ho : mR M a i.toNatClampNeg = o) (kk : G X l u rm bc bs M (pc + 1) ls (va_rf o :: st) Q) : G X l u rm bc bs M pc ls (.int i :: .ref a :: st) Q := by
  intro p e s m args below meth c H locs cells slots lr F hM hS hc hs hl
  have hlt : i.toNatClampNeg < n := Nat.not_le.mp fun q => hi (Or.inr q)
  have ht7 : t < 7 := (List.getElem?_eq_some_iff.mp ht).1
  refine W.aald (v := vv X M a i.toNatClampNeg) (ty := .object C) F.1 F.2.1 (h_cell hM (t := t) hT (by omega)).2 (h_arr F ht _) rfl (fun q => by cases q) (by rw [arrV_size]; exact hi) (arrV_read _ _ hlt) rfl rfl hd ?_
  rw [vv_r (t := 100 + t) (by rw [hT]) (fk_ref h4 _), ho, ← rel_rf]
  exact kk p e s m args below meth c H locs cells slots lr F hM hS hc hs hl
theorem g_iast (pc : Nat) {a n : Nat} {i x : Int32} (hd : decode u.2.1 pc = .ok (.iastore, 1)) (hT : mT M a = (100, n)) (hi : vp_in i n) (kk : G X l u rm bc bs (setI M a i.toNatClampNeg x) (pc + 1) ls st Q) : G X l u rm bc bs M pc ls (.int x :: .int i :: .ref a :: st) Q := by
  intro p e s m args below meth c H locs cells slots lr F hM hS hc hs hl
  have h3 := (h_cell hM (t := 0) hT (by decide)).1
  refine W.iast F.1 F.2.1 (h_cell hM (t := 0) hT (by decide)).2 (h_arr F (t := 0) rfl _) (fun q => by cases q) (by rw [arrV_size]; exact hi) rfl rfl hd fun H1 e1 z o => ?_
  exact kk p e s m args below meth c H1 _ cells slots lr F (h_aput hM (t := 0) hT (by decide) rfl rfl (fun _ h => vv_setI_ne h) (vv_setI (t := 100) (by rw [hT]) rfl) e1 z o) (hS.put z o (h_A h3)) hc hs hl
theorem g_bast (pc : Nat) {a n : Nat} {i x : Int32} (hd : decode u.2.1 pc = .ok (.bastore, 1)) (hT : mT M a = (101, n)) (hi : vp_in i n) (kk : G X l u rm bc bs (setI M a i.toNatClampNeg x.toInt8.toInt32) (pc + 1) ls st Q) : G X l u rm bc bs M pc ls (.int x :: .int i :: .ref a :: st) Q := by
  intro p e s m args below meth c H locs cells slots lr F hM hS hc hs hl
  have h3 := (h_cell hM (t := 1) hT (by decide)).1
  refine W.bast F.1 F.2.1 (h_cell hM (t := 1) hT (by decide)).2 (h_arr F (t := 1) rfl _) (fun q => by cases q) (by rw [arrV_size]; exact hi) rfl rfl hd fun H1 e1 z o => ?_
  exact kk p e s m args below meth c H1 _ cells slots lr F (h_aput hM (t := 1) hT (by decide) rfl rfl (fun _ h => vv_setI_ne h) (vv_setI (t := 101) (by rw [hT]) rfl) e1 z o) (hS.put z o (h_A h3)) hc hs hl
theorem g_zast (pc : Nat) {a n : Nat} {i x : Int32} (hd : decode u.2.1 pc = .ok (.bastore, 1)) (hT : mT M a = (102, n)) (hi : vp_in i n) (hz : x = 0 ∨ x = 1) (kk : G X l u rm bc bs (setI M a i.toNatClampNeg x) (pc + 1) ls st Q) : G X l u rm bc bs M pc ls (.int x :: .int i :: .ref a :: st) Q := by
  intro p e s m args below meth c H locs cells slots lr F hM hS hc hs hl
  have h3 := (h_cell hM (t := 2) hT (by decide)).1
  have hx : narrow .boolean (.int x) = .int x := by rcases hz with rfl | rfl <;> rfl
  refine W.zast F.1 F.2.1 (h_cell hM (t := 2) hT (by decide)).2 (h_arr F (t := 2) rfl _) (fun q => by cases q) (by rw [arrV_size]; exact hi) rfl rfl hd fun H1 e1 z o => ?_
  rw [hx] at e1
  exact kk p e s m args below meth c H1 _ cells slots lr F (h_aput hM (t := 2) hT (by decide) rfl rfl (fun _ h => vv_setI_ne h) (vv_setI (t := 102) (by rw [hT]) rfl) e1 z o) (hS.put z o (h_A h3)) hc hs hl
theorem g_last (pc : Nat) {a n : Nat} {i : Int32} {x : Int64} (hd : decode u.2.1 pc = .ok (.lastore, 1)) (hT : mT M a = (103, n)) (hi : vp_in i n) (kk : G X l u rm bc bs (setL M a i.toNatClampNeg x) (pc + 1) ls st Q) : G X l u rm bc bs M pc ls (.long x :: .int i :: .ref a :: st) Q := by
  intro p e s m args below meth c H locs cells slots lr F hM hS hc hs hl
  have h3 := (h_cell hM (t := 3) hT (by decide)).1
  refine W.last F.1 F.2.1 (h_cell hM (t := 3) hT (by decide)).2 (h_arr F (t := 3) rfl _) (fun q => by cases q) (by rw [arrV_size]; exact hi) rfl rfl hd fun H1 e1 z o => ?_
  exact kk p e s m args below meth c H1 _ cells slots lr F (h_aput hM (t := 3) hT (by decide) rfl rfl (fun _ h => vv_setL_ne h) (vv_setL (t := 103) (by rw [hT]) rfl) e1 z o) (hS.put z o (h_A h3)) hc hs hl
/-- an object of the array's own component class is stored -/
theorem g_aast (pc : Nat) {a n b ci : Nat} {i : Int32} (t : Nat) {C : String} {T : u_T} {N : Nat} (hd : decode u.2.1 pc = .ok (.aastore, 1)) (ht : (mTys X)[t]? = some (xK X (100 + t), .object C)) (h4 : 4 ≤ t) (hT : mT M a = (100 + t, n)) (hi : vp_in i n) (hb : (mT M b).1 = ci) (hc1 : ci < 100) (hcl : vwCl[ci]? = some (C, T, N)) (kk : G X l u rm bc bs (setR M a i.toNatClampNeg (some b)) (pc + 1) ls st Q) : G X l u rm bc bs M pc ls (.ref b :: .int i :: .ref a :: st) Q := by
  intro p e s m args below meth c H locs cells slots lr F hM hS hc hs hl
  have ht7 : t < 7 := (List.getElem?_eq_some_iff.mp ht).1
  obtain ⟨h3, hcell⟩ := h_cell hM (t := t) hT (by omega)
  have hlt : i.toNatClampNeg < n := Nat.not_le.mp fun q => hi (Or.inr q)
  have h0 : ¬ i < 0 := fun q => hi (Or.inl q)
  obtain ⟨h3b, hltb⟩ := hM.alloc (a := b) (by rw [hb]; omega)
  obtain ⟨r', hr', cellV, g1, g2, g3, -⟩ := (hM.2.2.2 b h3b hltb).1 (by rw [hb]; exact hc1)
  rw [hb] at hr' g2
  have hK := F.2.2.2.2.2.2.2.2.1.1
  have hcls := (hK.1 ci _ hcl).2
  obtain ⟨kA, comp, k1, k2, k3, -⟩ := (hK.2 t _ ht).2
  have hcomp : comp = (xD X).1 ci := Option.some.inj (k3.symm.trans hcls.1)
  subst hcomp
  obtain ⟨kC, hkC, -⟩ := hcls.2
  refine W.aast F.1 F.2.1 hcell (fun q h => by cases h) (fun h => by cases h) k1 k2 rfl hkC ⟨h0, by rw [arrV_size]; exact hlt⟩ g1 (fun q h => by rw [g3] at h; cases h) (by rw [g2]; exact hkC) (by rw [g2]; exact va_assign hcls) rfl rfl hd fun H1 e1 z o => ?_
  exact kk p e s m args below meth c H1 _ cells slots lr F (h_aput hM (t := t) hT (by omega) rfl rfl (fun _ h => vv_setR_ne h) (vv_setR (x := some b) (t := 100 + t) (by rw [hT]) (fk_ref h4 _)) e1 z o) (hS.put z o (h_A h3)) hc hs hl
theorem g_aastN (pc : Nat) {a n : Nat} {i : Int32} (t : Nat) {C : String} (hd : decode u.2.1 pc = .ok (.aastore, 1)) (ht : (mTys X)[t]? = some (xK X (100 + t), .object C)) (h4 : 4 ≤ t) (hT : mT M a = (100 + t, n)) (hi : vp_in i n) (kk : G X l u rm bc bs (setR M a i.toNatClampNeg none) (pc + 1) ls st Q) : G X l u rm bc bs M pc ls (.null :: .int i :: .ref a :: st) Q := by
  intro p e s m args below meth c H locs cells slots lr F hM hS hc hs hl
  have ht7 : t < 7 := (List.getElem?_eq_some_iff.mp ht).1
  obtain ⟨h3, hcell⟩ := h_cell hM (t := t) hT (by omega)
  refine va_WaastN (C := C) F.1 F.2.1 hcell (h_arr F ht _) (fun h => by cases h) (by rw [arrV_size]; exact hi) rfl rfl hd fun H1 e1 z o => ?_
  exact kk p e s m args below meth c H1 _ cells slots lr F (h_aput hM (t := t) hT (by omega) rfl rfl (fun _ h => vv_setR_ne h) (vv_setR (x := none) (t := 100 + t) (by rw [hT]) (fk_ref h4 _)) e1 z o) (hS.put z o (h_A h3)) hc hs hl
theorem g_alen (pc : Nat) {a n : Nat} (t : Nat) {ty : FieldType} (hd : decode u.2.1 pc = .ok (.arraylength, 1)) (ht : (mTys X)[t]? = some (xK X (100 + t), ty)) (hT : mT M a = (100 + t, n)) (kk : G X l u rm bc bs M (pc + 1) ls (.int (nI n) :: st) Q) : G X l u rm bc bs M pc ls (.ref a :: st) Q := by
  intro p e s m args below meth c H locs cells slots lr F hM hS hc hs hl
  have ht7 : t < 7 := (List.getElem?_eq_some_iff.mp ht).1
  exact W.alen (n := nI n) F.1 F.2.1 (h_cell hM (t := t) hT (by omega)).2 (h_arr F ht _) (by rw [arrV_size] <;> rfl) rfl rfl hd (kk p e s m args below meth c H locs cells slots lr F hM hS hc hs hl)
theorem adr_old (X : mX) {a : Nat} (h : a < 3) : adr X a = xO X a := if_pos h
theorem g_oald (pc : Nat) {a : Nat} {i : Int32} (ha : a < 3) (hd : decode u.2.1 pc = .ok (.iaload, 1)) (hi : vp_in i (xL X a)) (kk : G X l u rm bc bs M (pc + 1) ls (.int (xI X a i.toNatClampNeg) :: st) Q) : G X l u rm bc bs M pc ls (.int i :: .ref a :: st) Q := by
  intro p e s m args below meth c H locs cells slots lr F hM hS hc hs hl
  have h := F.2.2.2.2.2.2.2.2.1.2.2.2.2.2 a ha
  show W p l e rm s m args below meth c H locs cells slots _ (F0 m pc lr (.int i :: .ref (adr X a) :: st.map (rel X)))
  rw [adr_old X ha]
  exact va_ti F.1 F.2.1 h hS hi rfl hd (kk p e s m args below meth c H locs cells slots lr F hM hS hc hs hl)
theorem g_olen (pc : Nat) {a : Nat} (ha : a < 3) (hd : decode u.2.1 pc = .ok (.arraylength, 1)) (kk : G X l u rm bc bs M (pc + 1) ls (.int (nI (xL X a)) :: st) Q) : G X l u rm bc bs M pc ls (.ref a :: st) Q := by
  intro p e s m args below meth c H locs cells slots lr F hM hS hc hs hl
  have h := F.2.2.2.2.2.2.2.2.1.2.2.2.2.2 a ha
  show W p l e rm s m args below meth c H locs cells slots _ (F0 m pc lr (.ref (adr X a) :: st.map (rel X)))
  rw [adr_old X ha]
  exact va_tlen F.1 F.2.1 h hS rfl hd (kk p e s m args below meth c H locs cells slots lr F hM hS hc hs hl)
/-- the static tables: a = 1 FIXED_NAMES, a = 2 FIXED_VALUES -/
theorem g_fix1 (pc : Nat) {idx : Nat} (hd : decode u.2.1 pc = .ok (.getstatic idx, 3)) (hs' : Cond.fieldLink u.1.cls idx fixC "FIXED_NAMES" "[I" ∈ gW ∨ ∃ host, Cond.fieldLinkNest u.1.cls idx fixC "FIXED_NAMES" "[I" host ∈ gN) (kk : G X l u rm bc bs M (pc + 3) ls (.ref 1 :: st) Q) : G X l u rm bc bs M pc ls st Q := by
  intro p e s m args below meth c H locs cells slots lr F hM hS hc hs hl
  have hO := F.2.2.2.2.2.2.2.2.1
  have K := kk p e s m args below meth c H locs cells slots lr F hM hS hc hs hl
  rcases hs' with h | ⟨host, h⟩
  · exact va_gets F.1 F.2.1 hO.2.2.2.1 hS F.2.2.2.2.1 (F.2.2.2.2.2.1 _ (List.mem_cons_of_mem _ h)) (fun _ q => q) hd K
  · exact va_getsN F.1 F.2.1 hO.2.2.2.1 hS F.2.2.2.2.1 (va_Nw.use (gN_tab h) (hO.2.1 _ h)) (fun _ q => q) hd K
theorem g_fix2 (pc : Nat) {idx : Nat} (hd : decode u.2.1 pc = .ok (.getstatic idx, 3)) (hs' : Cond.fieldLink u.1.cls idx fixC "FIXED_VALUES" "[I" ∈ gW ∨ ∃ host, Cond.fieldLinkNest u.1.cls idx fixC "FIXED_VALUES" "[I" host ∈ gN) (kk : G X l u rm bc bs M (pc + 3) ls (.ref 2 :: st) Q) : G X l u rm bc bs M pc ls st Q := by
  intro p e s m args below meth c H locs cells slots lr F hM hS hc hs hl
  have hO := F.2.2.2.2.2.2.2.2.1
  have K := kk p e s m args below meth c H locs cells slots lr F hM hS hc hs hl
  rcases hs' with h | ⟨host, h⟩
  · exact va_gets F.1 F.2.1 hO.2.2.2.2.1 hS F.2.2.2.2.1 (F.2.2.2.2.2.1 _ (List.mem_cons_of_mem _ h)) (fun _ q => q) hd K
  · exact va_getsN F.1 F.2.1 hO.2.2.2.2.1 hS F.2.2.2.2.1 (va_Nw.use (gN_tab h) (hO.2.1 _ h)) (fun _ q => q) hd K
end GA
/-! ===== new cells ===== -/
def dv (X : mX) (tag k : Nat) : Value := vk (fk tag k) 0 0 none
theorem vv_new {X : mX} {M : mM} {tag len : Nat} : vv X (newM M tag len) (mN M) = dv X tag := by
  funext k
  show vk (fk (if mN M = mN M then (tag, len) else mT M (mN M)).1 k) (if mN M = mN M then 0 else mI M (mN M) k) (if mN M = mN M then 0 else mL M (mN M) k) ((if mN M = mN M then none else mR M (mN M) k).map (adr X)) = _
  simp only [if_true]
  rfl
theorem vv_new_ne {X : mX} {M : mM} {tag len b : Nat} (h : b ≠ mN M) : vv X (newM M tag len) b = vv X M b := by
  funext k
  show vk (fk (if b = mN M then (tag, len) else mT M b).1 k) (if b = mN M then 0 else mI M b k) (if b = mN M then 0 else mL M b k) ((if b = mN M then none else mR M b k).map (adr X)) = _
  simp only [if_neg h]
  rfl
theorem mT_new (M : mM) (tag len : Nat) : mT (newM M tag len) (mN M) = (tag, len) := if_pos rfl
theorem mT_new_ne {M : mM} {tag len b : Nat} (h : b ≠ mN M) : mT (newM M tag len) b = mT M b := if_neg h
theorem Sm.new {X : mX} {M : mM} {H H' : Heap} {tag len : Nat} (h : Sm X M H) (hz : H'.size = H.size + 1) (hk : ∀ q, q < H.size → H'[q]? = H[q]?) (hc : mAt X (newM M tag len) H' (mN M)) : Sm X (newM M tag len) H' := by
  have h1 := h.1
  have h2 := h.2.1
  have hn : mN (newM M tag len) = mN M + 1 := rfl
  refine ⟨by rw [hz, hn]; omega, by rw [hn]; omega, fun b hb => ?_, fun b h3 hb => ?_⟩
  · rw [hn] at hb
    have hne : b ≠ mN M := by omega
    have e : mT (newM M tag len) b = mT M b := if_neg hne
    rw [e]; exact h.2.2.1 b (by omega)
  · rw [hn] at hb
    by_cases e : b = mN M
    · subst e; exact hc
    · refine (h.2.2.2 b h3 (by omega)).kept (if_neg e) (vv_new_ne e) (hk _ ?_)
      rw [adr_own X h3]; omega
def nS (own : String) (idx ci N : Nat) : Prop := ∃ (C : String) (T : u_T), cF ci C T N ∧ Cond.classLink own idx C ∈ gW ∧ Cond.instantiable C N ∈ gW ∧ Cond.initialized C ∈ gW
theorem tk_dv {X : mX} {ty : FieldType} {tag k : Nat} (h : tk ty = fk tag k) (h9 : tk ty ≠ 9) : defaultValue ty = dv X tag k := by
  unfold dv
  rw [← h]
  cases ty <;> first | rfl | exact absurd rfl h9
section GN
variable {X : mX} {l : Launch} {u : mU} {rm : Room} {bc bs : Nat} {M : mM} {ls : List (Option Value)} {st : List Value} {Q : Option Value → mM → Prop}
theorem fk_9 (tag k : Nat) (h : tag < 100) (hf : ∀ r ∈ fkT, ∀ x ∈ r, x ≠ 9) : fk tag k ≠ 9 := by
  unfold fk
  rw [if_pos h]
  rw [List.getD_eq_getElem?_getD, List.getD_eq_getElem?_getD]
  cases h1 : fkT[tag]? with
  | none => simp
  | some r =>
    simp only [Option.getD_some]
    cases h2 : r[k]? with
    | none => simp
    | some x => simpa using hf r (List.mem_of_getElem? h1) x (List.mem_of_getElem? h2)
theorem fkT_ok : ∀ r ∈ fkT, ∀ x ∈ r, x ≠ 9 := by decide
theorem g_new (pc : Nat) {idx : Nat} (ci N : Nat) (hd : decode u.2.1 pc = .ok (.new idx, 3)) (hs' : nS u.1.cls idx ci N) (h1 : 1 ≤ bc) (h2 : N ≤ bs) (kk : G X l u rm (bc - 1) (bs - N) (newM M ci N) (pc + 3) ls (.ref (mN M) :: st) Q) : G X l u rm bc bs M pc ls st Q := by
  intro p e s m args below meth c H locs cells slots lr F hM hS hc hs hl
  obtain ⟨C, T, ⟨hci, hcl, hin, hnm, ty, hty⟩, hw1, hw2, hw3⟩ := hs'
  have hts := F.2.2.2.2.2.1
  have hKn := F.2.2.2.2.2.2.2.2.1.1.1 ci _ hcl
  refine W.newcK F.1 F.2.1 F.2.2.2.2.1 (hts _ (List.mem_cons_of_mem _ hw1)) (hts _ (List.mem_cons_of_mem _ hw2)) (hts _ (List.mem_cons_of_mem _ hw3)) rfl hd (by omega) (by omega) hKn.2.1 rfl fun H1 kC hkC e1 z1 o1 => ?_
  have hM1 : Sm X (newM M ci N) H1 := by
    refine hM.new z1 o1 ⟨fun _ => ?_, fun q => absurd (show (mT (newM M ci N) (mN M)).1 < 100 by rw [mT_new]; exact hci) q⟩
    have eT : mT (newM M ci N) (mN M) = (ci, N) := if_pos rfl
    rw [eT, vv_new, adr_new hM]
    refine ⟨(C, T, N), hcl, (u_born ty hts (fun w h => List.mem_cons_of_mem _ (hin w h)) hKn hkC e1 (fun k hk => (hty k hk).1)).to (fun k hk => ?_)⟩
    exact tk_dv (hty k hk).2 (by rw [(hty k hk).2]; exact fk_9 ci k hci fkT_ok)
  have hS1 : va_S (xA X) s.heap H1 locs := ⟨Nat.le_trans hS.1 (by omega), fun x h1 h2 => (o1 x (Nat.lt_of_lt_of_le h1 hS.1)).trans (hS.2.1 x h1 h2), hS.2.2⟩
  have K := kk p e s m args below meth c H1 locs (cells + 1) (slots + N) lr F hM1 hS1 (by omega) (by omega) hl
  rw [← adr_new hM]
  exact K
theorem g_newa (pc : Nat) {n : Int32} {atype : ArrayType} (t K : Nat) {ty : FieldType} (hd : decode u.2.1 pc = .ok (.newarray atype, 2)) (hw : Cond.arrayClass (newarray.typeOf atype) ∈ gW) (hty : newarray.typeOf atype = ty) (ht : (mTys X)[t]? = some (xK X (100 + t), ty)) (hk : ∀ k, defaultValue ty = dv X (100 + t) k) (hra : ∀ (U : State) (cA : ClassId), va_RA U cA ty → U.vm.findClass ("[" ++ ty.toString) = some cA) (hb8 : componentBytes ty ≤ 8) (hn : ¬ n < 0) (hK : n.toNatClampNeg ≤ K) (hK2 : K ≤ 1000000) (h1 : 1 ≤ bc) (h2 : K ≤ bs)
    (kk : G X l u rm (bc - 1) (bs - K) (newM M (100 + t) n.toNatClampNeg) (pc + 2) ls (.ref (mN M) :: st) Q) : G X l u rm bc bs M pc ls (.int n :: st) Q := by
  intro p e s m args below meth c H locs cells slots lr F hM hS hc hs hl
  subst hty
  have hts := F.2.2.2.2.2.1
  have hb : n.toNatClampNeg * componentBytes (newarray.typeOf atype) ≤ 536870912 := by
    have : n.toNatClampNeg * componentBytes (newarray.typeOf atype) ≤ 1000000 * 8 := Nat.mul_le_mul (by omega) hb8
    omega
  refine va_newaK F.1 F.2.1 (hts _ (List.mem_cons_of_mem _ hw)) rfl hd rfl hn rfl hb (by omega) (by omega) rfl fun H1 cA e1 z1 o1 hAr hNm => ?_
  have hcA : cA = xK X (100 + t) := Option.some.inj (hNm.symm.trans (hra _ _ (F.2.2.2.2.2.2.2.2.1.1.2 t _ ht).2))
  subst hcA
  have hM1 : Sm X (newM M (100 + t) n.toNatClampNeg) H1 := by
    refine hM.new z1 o1 ⟨fun q => absurd q ?_, fun _ => ?_⟩
    · rw [mT_new]; show ¬ 100 + t < 100; omega
    · have eT : mT (newM M (100 + t) n.toNatClampNeg) (mN M) = (100 + t, n.toNatClampNeg) := if_pos rfl
      rw [eT, vv_new, adr_new hM, e1]
      congr 2
      funext k
      exact hk k
  have hS1 : va_S (xA X) s.heap H1 locs := ⟨Nat.le_trans hS.1 (by omega), fun x h1 h2 => (o1 x (Nat.lt_of_lt_of_le h1 hS.1)).trans (hS.2.1 x h1 h2), hS.2.2⟩
  have K := kk p e s m args below meth c H1 locs (cells + 1) (slots + n.toNatClampNeg) lr F hM1 hS1 (by omega) (by omega) hl
  rw [← adr_new hM]
  exact K
theorem g_anew (pc : Nat) {n : Int32} {idx : Nat} (t K : Nat) (hd : decode u.2.1 pc = .ok (.anewarray idx, 3)) (hw : Cond.classLink u.1.cls idx (aoC t) ∈ gW) (ht : (mTys X)[t]? = some (xK X (100 + t), .object (aoC t))) (h4 : 4 ≤ t) (hn : ¬ n < 0) (hK : n.toNatClampNeg ≤ K) (hK2 : K ≤ 1000000) (h1 : 1 ≤ bc) (h2 : K ≤ bs)
    (kk : G X l u rm (bc - 1) (bs - K) (newM M (100 + t) n.toNatClampNeg) (pc + 3) ls (.ref (mN M) :: st) Q) : G X l u rm bc bs M pc ls (.int n :: st) Q := by
  intro p e s m args below meth c H locs cells slots lr F hM hS hc hs hl
  have ht7 : t < 7 := (List.getElem?_eq_some_iff.mp ht).1
  have hts := F.2.2.2.2.2.1
  have hO := F.2.2.2.2.2.2.2.2.1
  refine W.anew F.1 F.2.1 F.2.2.2.2.1 (hts _ (List.mem_cons_of_mem _ hw)) (va_AO.use (hO.2.2.1 t ht7)) rfl hd rfl hn (by omega) (by omega) (by omega) fun cA kA comp f1 f2 f3 f4 => ?_
  obtain ⟨kA', comp', k1, k2, k3, k4⟩ := (hO.1.2 t _ ht).2
  have hcA : cA = xK X (100 + t) := Option.some.inj (f1.symm.trans k4)
  subst hcA
  generalize hH1 : H.push ({ cls := xK X (100 + t), slots := Array.replicate n.toNatClampNeg .null, vm := .none } : Cell) = H1
  have z1 : H1.size = H.size + 1 := by rw [← hH1, Array.size_push]
  have e1 : H1[H.size]? = some (arrV (xK X (100 + t)) n.toNatClampNeg (fun _ => .null)) := by rw [← hH1, Array.getElem?_push_size, ← arrV_new]
  have o1 : ∀ q : Nat, q < H.size → H1[q]? = H[q]? := fun q hq => by rw [← hH1, Array.getElem?_push, if_neg (Nat.ne_of_lt hq)]
  have hM1 : Sm X (newM M (100 + t) n.toNatClampNeg) H1 := by
    refine hM.new z1 o1 ⟨fun q => absurd q ?_, fun _ => ?_⟩
    · rw [mT_new]; show ¬ 100 + t < 100; omega
    · have eT : mT (newM M (100 + t) n.toNatClampNeg) (mN M) = (100 + t, n.toNatClampNeg) := if_pos rfl
      rw [eT, vv_new, adr_new hM, e1]
      congr 2
      funext k
      unfold dv
      rw [vk_2 (fk_ref h4 k)]
      rfl
  have hS1 : va_S (xA X) s.heap H1 locs := ⟨Nat.le_trans hS.1 (by omega), fun x h1 h2 => (o1 x (Nat.lt_of_lt_of_le h1 hS.1)).trans (hS.2.1 x h1 h2), hS.2.2⟩
  have K := kk p e s m args below meth c H1 locs (cells + 1) (slots + n.toNatClampNeg) lr F hM1 hS1 (by omega) (by omega) hl
  rw [← adr_new hM]
  exact K
end GN
end
section
/-! ===== calls ===== -/
def cB (own : String) (idx : Nat) (v : mU) (n : Nat) : Prop := (Cond.methodLink own idx v.1 ∈ gW ∨ ∃ host, Cond.methodLinkNest own idx v.1 host ∈ gN) ∧ Cond.initialized v.1.cls ∈ gW ∧ wC v ∈ gW ∧ (v.1.cls ≠ "java/lang/invoke/MethodHandle" ∧ v.1.cls ≠ "java/lang/invoke/VarHandle") ∧ (parseMethodDescriptor v.1.desc).map (fun d => d.parameters.length) = some n
/-- a virtual call, a static one, a constructor's -/
def cV (own : String) (idx : Nat) (v : mU) (n : Nat) : Prop := cB own idx v n ∧ Cond.instanceMethod v.1 ∈ gW ∧ Cond.selects v.1.cls v.1 v.1 ∈ gW
def cSt (own : String) (idx : Nat) (v : mU) (n : Nat) : Prop := cB own idx v n ∧ Cond.static v.1 ∈ gW
def cI (own : String) (idx : Nat) (v : mU) (n : Nat) : Prop := cB own idx v n ∧ Cond.instanceMethod v.1 ∈ gW ∧ v.1.name = "<init>" ∧ v.2.2.2 = none
section GC0
variable {X : mX} {l : Launch} {u v : mU} {rm rm' : Room} {p : Program} {e : Env} {s : State} {m : MethodId} {args : Array Value} {below : List Frame} {meth : Method} {c : Code} {H : Heap} {locs : List Loc} {cells slots bc bs : Nat} {M : mM} {pc : Nat} {lr : Array Slot} {ls : List (Option Value)} {st st0 : List Value} {Q Q' : Option Value → mM → Prop} {aa : Array Value}
theorem h_run (F : Fx X u p s m args meth c) (hS : va_S (xA X) s.heap H locs) (hc : cells + (bc + rm'.cells) ≤ rm.cells) (hs : slots + (bs + rm'.slots) ≤ rm.slots) (hl : LR X lr u.2.2.1 ls)
    (hr : va_Run p l e rm s m args below meth c H locs cells slots rm'.cells rm'.slots (F0 m pc lr (st0.map (rel X))) (st.map (rel X)) (mQc X Q' aa) (xA X))
    (kk : ∀ (r : Option Value) (M' : mM), Q' r M' → G X l u rm bc bs M' (pc + 3) ls (r.toList ++ st) Q) : W p l e rm s m args below meth c H locs cells slots (MQ below (mQc X Q) args s rm.cells rm.slots (xA X)) (F0 m pc lr (st0.map (rel X))) := by
  intro T hT S
  obtain ⟨v, st₀, t, T', L, h0, S', hL, e1, e2, ⟨⟨r, M', hv, hq, hM', hO'⟩, hz, hk⟩, go⟩ := hr T hT S
  cases hv
  rw [h0] at hz hk
  have hS' : va_S (xA X) s.heap T'.heap (locs ++ L) := ⟨Nat.le_trans hS.1 (by rw [e1]; exact hz), fun q h1 h2 => by rw [e1, hk q (Nat.lt_of_lt_of_le h1 hS.1) h2]; exact hS.2.1 q h1 h2, fun q hq => by
    rcases List.mem_append.mp hq with h | h
    · exact hS.2.2 q h
    · exact hL q h⟩
  obtain ⟨t2, a1, b1⟩ := kk r M' hq p e s m args below meth c T'.heap (locs ++ L) (cells + rm'.cells) (slots + rm'.slots) lr F (by rw [e1]; exact hM') hS' (by omega) (by omega) hl T' rfl S'
  refine ⟨t2, go t2 ?_, b1⟩
  have es : (r.toList ++ st).map (rel X) = (r.map (rel X)).toList ++ st.map (rel X) := by cases r <;> simp
  rw [es] at a1
  exact a1
theorem h_room (h : (st.map fun v => v.category).sum ≤ 8) : 2 * (F0 m pc lr (st0.map (rel X))).monitorRoom + ((st.map (rel X)).map fun v => v.category).sum ≤ 8 := by
  refine lv_room ?_
  rw [List.map_map]
  have e : ((fun v : Value => v.category) ∘ rel X) = fun v => v.category := funext fun v => rel_cat X v
  rw [e]
  exact h
end GC0
section GC
variable {X : mX} {l : Launch} {u v : mU} {rm rm' : Room} {bc bs : Nat} {M : mM} {ls : List (Option Value)} {st : List Value} {Q Q' : Option Value → mM → Prop}
theorem g_callV (pc : Nat) {idx n b ci N : Nat} {T : u_T} (As : List Value) {st0 : List Value} (hd : decode u.2.1 pc = .ok (.invokevirtual idx, 3)) (hs' : cV u.1.cls idx v n) (hn : As.length = n) (hcl : vwCl[ci]? = some (v.1.cls, T, N)) (hci : ci < 100) (hT : (mT M b).1 = ci) (hst : As.reverse ++ .ref b :: st = st0) (hR : rm'.frames + 1 ≤ rm.frames ∧ 8 + (v.2.2.1 + 11) + rm'.locals ≤ rm.locals) (h8 : (st.map fun v => v.category).sum ≤ 8)
    (hC : Ct X l v rm' (.ref b :: As) M Q') (h1 : rm'.cells ≤ bc) (h2 : rm'.slots ≤ bs) (kk : ∀ (r : Option Value) (M' : mM), Q' r M' → G X l u rm (bc - rm'.cells) (bs - rm'.slots) M' (pc + 3) ls (r.toList ++ st) Q) : G X l u rm bc bs M pc ls st0 Q := by
  intro p e s m args below meth c H locs cells slots lr F hM hS hc hs hl
  obtain ⟨⟨hlk, hini, hcw, hmh, hpd⟩, him, hsel⟩ := hs'
  have hts := F.2.2.2.2.2.1
  have hO := F.2.2.2.2.2.2.2.2.1
  have hG := gW_sub u v hcw
  have S : CallFix p m c u.2.1 u.2.2.1 s args (wC u :: gW) u.1.cls := ⟨F.1, F.2.1, F.2.2.2.1, F.2.2.2.2.1, hts⟩
  obtain ⟨h3b, hltb⟩ := hM.alloc (a := b) (by rw [hT]; omega)
  obtain ⟨r', hr', cellV, g1, g2, g3, -⟩ := (hM.2.2.2 b h3b hltb).1 (by rw [hT]; exact hci)
  rw [hT] at g2
  have hpre : PreV s H v.1.cls (adr X b) (mPc X (.ref b :: As) M) (As.map (rel X)) := ⟨mPc.blind, ⟨cellV, g1, by rw [g3]; rfl, by rw [g2]; exact (hO.1.1 ci _ hcl).2.1⟩, fun U hU hW => ⟨rfl, by rw [hU]; exact hM, hO.mv hW (by rw [hU]; exact hS)⟩⟩
  have hstk : (st0.map (rel X)) = (As.map (rel X)).reverse ++ .ref (adr X b) :: st.map (rel X) := by rw [← hst]; simp [rel]
  refine h_run (rm' := rm') (bc := bc - rm'.cells) (bs := bs - rm'.slots) F hS (by omega) (by omega) hl (aa := (Value.ref (adr X b) :: As.map (rel X)).toArray) (Q' := Q') ?_ kk
  rcases hlk with hlk | ⟨host, hlk⟩
  · have cw : CallW rm s args u.1.cls v.1.cls idx v.1 v.2.1 v.2.2.1 v.2.2.2 (wC v :: gW) rm' rm'.cells rm'.slots n :=
      ⟨callB_of n hts hG rfl rfl rfl (hts _ (List.mem_cons_of_mem _ hini)) (hts _ (List.mem_cons_of_mem _ hlk)) ⟨hmh.1, hmh.2, hpd⟩ hR, hts _ (List.mem_cons_of_mem _ him), hts _ (List.mem_cons_of_mem _ hsel)⟩
    exact va_runV S hC cw hpre rfl (by simpa using hn) hl.1 hstk (h_room h8) hd ⟨by omega, by omega⟩
  · have cw : va_CN rm s args u.1.cls idx v.1 host v.2.1 v.2.2.1 v.2.2.2 (wC v :: gW) rm' rm'.cells rm'.slots n := va_cnB n hts hG rfl rfl rfl (hO.2.1 _ hlk) (hts _ (List.mem_cons_of_mem _ hini)) ⟨hmh.1, hmh.2, hpd⟩ hR
    exact va_runVN S hC ⟨cw, hts _ (List.mem_cons_of_mem _ him), hts _ (List.mem_cons_of_mem _ hsel)⟩ hpre rfl (by simpa using hn) hl.1 hstk (h_room h8) hd ⟨by omega, by omega⟩
theorem g_callS (pc : Nat) {idx n : Nat} (As : List Value) {st0 : List Value} (hd : decode u.2.1 pc = .ok (.invokestatic idx, 3)) (hs' : cSt u.1.cls idx v n) (hn : As.length = n) (hst : As.reverse ++ st = st0) (hR : rm'.frames + 1 ≤ rm.frames ∧ 8 + (v.2.2.1 + 11) + rm'.locals ≤ rm.locals) (h8 : (st.map fun v => v.category).sum ≤ 8)
    (hC : Ct X l v rm' As M Q') (h1 : rm'.cells ≤ bc) (h2 : rm'.slots ≤ bs) (kk : ∀ (r : Option Value) (M' : mM), Q' r M' → G X l u rm (bc - rm'.cells) (bs - rm'.slots) M' (pc + 3) ls (r.toList ++ st) Q) : G X l u rm bc bs M pc ls st0 Q := by
  intro p e s m args below meth c H locs cells slots lr F hM hS hc hs hl
  obtain ⟨⟨hlk, hini, hcw, hmh, hpd⟩, hstt⟩ := hs'
  have hts := F.2.2.2.2.2.1
  have hO := F.2.2.2.2.2.2.2.2.1
  have hG := gW_sub u v hcw
  have S : CallFix p m c u.2.1 u.2.2.1 s args (wC u :: gW) u.1.cls := ⟨F.1, F.2.1, F.2.2.2.1, F.2.2.2.2.1, hts⟩
  have hpre : PreS s H (mPc X As M) (As.map (rel X)) := ⟨mPc.blind, fun U hU hW => ⟨rfl, by rw [hU]; exact hM, hO.mv hW (by rw [hU]; exact hS)⟩⟩
  have hstk : (st0.map (rel X)) = (As.map (rel X)).reverse ++ st.map (rel X) := by rw [← hst]; simp
  refine h_run (rm' := rm') (bc := bc - rm'.cells) (bs := bs - rm'.slots) F hS (by omega) (by omega) hl (aa := (As.map (rel X)).toArray) (Q' := Q') ?_ kk
  rcases hlk with hlk | ⟨host, hlk⟩
  · exact va_runS S hC ⟨callB_of n hts hG rfl rfl rfl (hts _ (List.mem_cons_of_mem _ hini)) (hts _ (List.mem_cons_of_mem _ hlk)) ⟨hmh.1, hmh.2, hpd⟩ hR, hts _ (List.mem_cons_of_mem _ hstt)⟩ hpre rfl (by simpa using hn) hl.1 hstk (h_room h8) hd ⟨by omega, by omega⟩
  · have cw : va_CN rm s args u.1.cls idx v.1 host v.2.1 v.2.2.1 v.2.2.2 (wC v :: gW) rm' rm'.cells rm'.slots n := va_cnB n hts hG rfl rfl rfl (hO.2.1 _ hlk) (hts _ (List.mem_cons_of_mem _ hini)) ⟨hmh.1, hmh.2, hpd⟩ hR
    exact va_runSN S hC ⟨cw, hts _ (List.mem_cons_of_mem _ hstt), trivial⟩ hpre rfl (by simpa using hn) hl.1 hstk (h_room h8) hd ⟨by omega, by omega⟩
theorem g_callI (pc : Nat) {idx n b : Nat} (As : List Value) {st0 : List Value} (hd : decode u.2.1 pc = .ok (.invokespecial idx, 3)) (hs' : cI u.1.cls idx v n) (hn : As.length = n) (hst : As.reverse ++ .ref b :: st = st0) (hR : rm'.frames + 1 ≤ rm.frames ∧ 8 + (v.2.2.1 + 11) + rm'.locals ≤ rm.locals) (h8 : (st.map fun v => v.category).sum ≤ 8)
    (hC : Ct X l v rm' (.ref b :: As) M Q') (h1 : rm'.cells ≤ bc) (h2 : rm'.slots ≤ bs) (kk : ∀ (r : Option Value) (M' : mM), Q' r M' → G X l u rm (bc - rm'.cells) (bs - rm'.slots) M' (pc + 3) ls (r.toList ++ st) Q) : G X l u rm bc bs M pc ls st0 Q := by
  intro p e s m args below meth c H locs cells slots lr F hM hS hc hs hl
  obtain ⟨v1, v2, v3, v4⟩ := v
  obtain ⟨⟨hlk, hini, hcw, hmh, hpd⟩, him, hnm, hrt⟩ := hs'
  have hrt : v4 = none := hrt
  subst hrt
  have hts := F.2.2.2.2.2.1
  have hO := F.2.2.2.2.2.2.2.2.1
  have hG := gW_sub u (v1, v2, v3, none) hcw
  have S : CallFix p m c u.2.1 u.2.2.1 s args (wC u :: gW) u.1.cls := ⟨F.1, F.2.1, F.2.2.2.1, F.2.2.2.2.1, hts⟩
  have hpre : PreS s H (mPc X (.ref b :: As) M) (.ref (adr X b) :: As.map (rel X)) := ⟨mPc.blind, fun U hU hW => ⟨rfl, by rw [hU]; exact hM, hO.mv hW (by rw [hU]; exact hS)⟩⟩
  have hstk : (st0.map (rel X)) = (As.map (rel X)).reverse ++ .ref (adr X b) :: st.map (rel X) := by rw [← hst]; simp [rel]
  refine h_run (rm' := rm') (bc := bc - rm'.cells) (bs := bs - rm'.slots) F hS (by omega) (by omega) hl (aa := (Value.ref (adr X b) :: As.map (rel X)).toArray) (Q' := Q') ?_ kk
  rcases hlk with hlk | ⟨host, hlk⟩
  · exact va_runI S hC ⟨callB_of n hts hG rfl rfl rfl (hts _ (List.mem_cons_of_mem _ hini)) (hts _ (List.mem_cons_of_mem _ hlk)) ⟨hmh.1, hmh.2, hpd⟩ hR, hnm, hts _ (List.mem_cons_of_mem _ him)⟩ hpre rfl (by simpa using hn) hl.1 hstk (h_room h8) hd ⟨by omega, by omega⟩
  · have cw : va_CN rm s args u.1.cls idx v1 host v2 v3 none (wC (v1, v2, v3, none) :: gW) rm' rm'.cells rm'.slots n := va_cnB n hts hG rfl rfl rfl (hO.2.1 _ hlk) (hts _ (List.mem_cons_of_mem _ hini)) ⟨hmh.1, hmh.2, hpd⟩ hR
    exact va_runIN S hC ⟨cw, hnm, hts _ (List.mem_cons_of_mem _ him)⟩ hpre rfl (by simpa using hn) hl.1 hstk (h_room h8) hd ⟨by omega, by omega⟩
/-- Object's own constructor -/
theorem g_objInit (pc : Nat) {idx a : Nat} (hd : decode u.2.1 pc = .ok (.invokespecial idx, 3)) (hw1 : Cond.methodLink u.1.cls idx Lib.objectInit ∈ gW) (hw2 : Cond.instanceMethod Lib.objectInit ∈ gW) (hw3 : Cond.code Lib.objectInit ⟨#[0xb1]⟩ 1 none ∈ gW) (hR : 1 ≤ rm.frames ∧ (st.map fun v => v.category).sum + 12 ≤ rm.locals)
    (k : G X l u rm bc bs M (pc + 3) ls st Q) : G X l u rm bc bs M pc ls (.ref a :: st) Q := by
  intro p e s m args below meth c H locs cells slots lr F hM hS hc hs hl
  have hts := F.2.2.2.2.2.1
  have K := k p e s m args below meth c H locs cells slots lr F hM hS hc hs hl
  refine W.objInit F.1 F.2.1 F.2.2.2.2.1 (hts _ (List.mem_cons_of_mem _ hw1)) (hts _ (List.mem_cons_of_mem _ hw2)) (hts _ (List.mem_cons_of_mem _ hw3)) rfl (by rw [F.2.2.2.1]; exact hl.1) rfl hd hR.1 ?_ K
  have e1 : ((st.map (rel X)).map fun v => v.category).sum = (st.map fun v => v.category).sum := by
    rw [List.map_map]
    have e : ((fun v : Value => v.category) ∘ rel X) = fun v => v.category := funext fun v => rel_cat X v
    rw [e]
  rw [e1]
  show 2 * 0 + _ + 12 ≤ _
  omega
end GC
/-- less room asked, or a weaker end -/
theorem Ct.post {X : mX} {l : Launch} {u : mU} {rm : Room} {av : List Value} {M : mM} {Q Q' : Option Value → mM → Prop} (h : Ct X l u rm av M Q) (hq : ∀ r M', Q r M' → Q' r M') : Ct X l u rm av M Q' := by
  intro p e ha hc hk s m args below hf hsp hP hK
  obtain ⟨k, o, h1, h2, h3, ⟨⟨⟨r, M', e1, e2, e3⟩, e4⟩, h5⟩⟩ := h p e ha hc hk s m args below hf hsp hP hK
  exact ⟨k, o, h1, h2, h3, ⟨⟨⟨r, M', e1, hq r M' e2, e3⟩, e4⟩, h5⟩⟩
end
section
/-! ===== reading a changed memory ===== -/
theorem mN_setI {M : mM} {a k : Nat} {v : Int32} : mN (setI M a k v) = mN M := rfl
theorem mN_setL {M : mM} {a k : Nat} {v : Int64} : mN (setL M a k v) = mN M := rfl
theorem mN_setR {M : mM} {a k : Nat} {v : Option Nat} : mN (setR M a k v) = mN M := rfl
theorem mT_setI {M : mM} {a k : Nat} {v : Int32} : mT (setI M a k v) = mT M := rfl
theorem mT_setL {M : mM} {a k : Nat} {v : Int64} : mT (setL M a k v) = mT M := rfl
theorem mT_setR {M : mM} {a k : Nat} {v : Option Nat} : mT (setR M a k v) = mT M := rfl
theorem mI_setI {M : mM} {a k : Nat} {v : Int32} : mI (setI M a k v) = up2 (mI M) a k v := rfl
theorem mI_setL {M : mM} {a k : Nat} {v : Int64} : mI (setL M a k v) = mI M := rfl
theorem mI_setR {M : mM} {a k : Nat} {v : Option Nat} : mI (setR M a k v) = mI M := rfl
theorem mL_setI {M : mM} {a k : Nat} {v : Int32} : mL (setI M a k v) = mL M := rfl
theorem mL_setL {M : mM} {a k : Nat} {v : Int64} : mL (setL M a k v) = up2 (mL M) a k v := rfl
theorem mL_setR {M : mM} {a k : Nat} {v : Option Nat} : mL (setR M a k v) = mL M := rfl
theorem mR_setI {M : mM} {a k : Nat} {v : Int32} : mR (setI M a k v) = mR M := rfl
theorem mR_setL {M : mM} {a k : Nat} {v : Int64} : mR (setL M a k v) = mR M := rfl
theorem mR_setR {M : mM} {a k : Nat} {v : Option Nat} : mR (setR M a k v) = up2 (mR M) a k v := rfl
theorem mN_new (M : mM) (t n : Nat) : mN (newM M t n) = mN M + 1 := rfl
theorem mI_new (M : mM) (t n k : Nat) : mI (newM M t n) (mN M) k = 0 := if_pos rfl
theorem mI_new_ne {M : mM} {t n b k : Nat} (h : b ≠ mN M) : mI (newM M t n) b k = mI M b k := if_neg h
theorem mL_new (M : mM) (t n k : Nat) : mL (newM M t n) (mN M) k = 0 := if_pos rfl
theorem mL_new_ne {M : mM} {t n b k : Nat} (h : b ≠ mN M) : mL (newM M t n) b k = mL M b k := if_neg h
theorem mR_new (M : mM) (t n k : Nat) : mR (newM M t n) (mN M) k = none := if_pos rfl
theorem mR_new_ne {M : mM} {t n b k : Nat} (h : b ≠ mN M) : mR (newM M t n) b k = mR M b k := if_neg h
theorem up2_a {α : Type} {f : Nat → Nat → α} {a k a' k' : Nat} {v : α} (h : a' ≠ a) : up2 f a k v a' k' = f a' k' := up2_ne fun q => h q.1
theorem up2_k {α : Type} {f : Nat → Nat → α} {a k a' k' : Nat} {v : α} (h : k' ≠ k) : up2 f a k v a' k' = f a' k' := up2_ne fun q => h q.2
/-- the cells are numbered without a gap, from 3 on -/
def Wf (M : mM) : Prop := 3 ≤ mN M ∧ ∀ a, ¬ (3 ≤ a ∧ a < mN M) → (mT M a).1 = 999
theorem G.wf {X : mX} {l : Launch} {u : mU} {rm : Room} {bc bs : Nat} {M : mM} {pc : Nat} {ls : List (Option Value)} {st : List Value} {Q : Option Value → mM → Prop} (h : Wf M → G X l u rm bc bs M pc ls st Q) : G X l u rm bc bs M pc ls st Q :=
  fun p e s m args below meth c H locs cells slots lr F hM hS hc hs hl => h ⟨hM.2.1, hM.2.2.1⟩ p e s m args below meth c H locs cells slots lr F hM hS hc hs hl
theorem Wf.ne {M : mM} {a : Nat} (h : Wf M) (ha : (mT M a).1 ≠ 999) : a ≠ mN M := fun e => ha (h.2 a (by omega))
theorem Wf.lt {M : mM} {a : Nat} (h : Wf M) (ha : (mT M a).1 ≠ 999) : 3 ≤ a ∧ a < mN M := Classical.byContradiction fun q => ha (h.2 a q)
/-- a room without new cells -/
abbrev rk (f lo : Nat) : Room := { frames := f, cells := 0, slots := 0, locals := lo }
abbrev rn (f lo c s : Nat) : Room := { frames := f, cells := c, slots := s, locals := lo }
theorem nI48 : (48 : Int32) = nI 48 := rfl
theorem nI12 : (12 : Int32) = nI 12 := rfl
theorem rem48 {a : Nat} (h : a < 2 ^ 31) : nI a - nI a / 48 * 48 = nI (a % 48) := by rw [nI48]; exact pk_rem h (by decide) (by decide)
theorem rem12 {a : Nat} (h : a < 2 ^ 31) : nI a - nI a / 12 * 12 = nI (a % 12) := by rw [nI12]; exact pk_rem h (by decide) (by decide)
/-- tags of old and of new cells -/
theorem oT {M : mM} {t n a c : Nat} (h : a < mN M) (h2 : (mT M a).1 = c) : (mT (newM M t n) a).1 = c := by rw [mT_new_ne (Nat.ne_of_lt h)]; exact h2
theorem oTT {M : mM} {t n a : Nat} {c : Nat × Nat} (h : a < mN M) (h2 : mT M a = c) : mT (newM M t n) a = c := by rw [mT_new_ne (Nat.ne_of_lt h)]; exact h2
theorem nT {M : mM} {t n : Nat} : (mT (newM M t n) (mN M)).1 = t := by rw [mT_new]
theorem oR {M : mM} {t n a k : Nat} {o : Option Nat} (h : a < mN M) (h2 : mR M a k = o) : mR (newM M t n) a k = o := by rw [mR_new_ne (Nat.ne_of_lt h)]; exact h2
theorem G.bud {X : mX} {l : Launch} {u : mU} {rm : Room} {bc bs : Nat} {M : mM} {pc : Nat} {ls : List (Option Value)} {st : List Value} {Q : Option Value → mM → Prop} (bc' bs' : Nat) (h1 : bc' ≤ bc) (h2 : bs' ≤ bs) (h : G X l u rm bc' bs' M pc ls st Q) : G X l u rm bc bs M pc ls st Q :=
  fun p e s m args below meth c H locs cells slots lr F hM hS hc hs hl => h p e s m args below meth c H locs cells slots lr F hM hS (by omega) (by omega) hl
end
section
theorem dPipe_isFull_0 : decode uPipe_isFull.2.1 0 = .ok (.aload_n 0, 1) := by decide +kernel
theorem dPipe_isFull_1 : decode uPipe_isFull.2.1 1 = .ok (.getfield 21, 3) := by decide +kernel
theorem dPipe_isFull_4 : decode uPipe_isFull.2.1 4 = .ok (.bipush 30, 2) := by decide +kernel
theorem dPipe_isFull_6 : decode uPipe_isFull.2.1 6 = .ok (.if_icmp .lt 7, 3) := by decide +kernel
theorem dPipe_isFull_9 : decode uPipe_isFull.2.1 9 = .ok (.iconst 1, 1) := by decide +kernel
theorem dPipe_isFull_10 : decode uPipe_isFull.2.1 10 = .ok (.goto 4, 3) := by decide +kernel
theorem dPipe_isFull_13 : decode uPipe_isFull.2.1 13 = .ok (.iconst 0, 1) := by decide +kernel
theorem dPipe_isFull_14 : decode uPipe_isFull.2.1 14 = .ok (.ireturn, 1) := by decide +kernel
theorem dPipe_add_0 : decode uPipe_add.2.1 0 = .ok (.aload_n 0, 1) := by decide +kernel
theorem dPipe_add_1 : decode uPipe_add.2.1 1 = .ok (.getfield 21, 3) := by decide +kernel
theorem dPipe_add_4 : decode uPipe_add.2.1 4 = .ok (.bipush 48, 2) := by decide +kernel
theorem dPipe_add_6 : decode uPipe_add.2.1 6 = .ok (.if_icmp .ge 31, 3) := by decide +kernel
theorem dPipe_add_9 : decode uPipe_add.2.1 9 = .ok (.aload_n 0, 1) := by decide +kernel
theorem dPipe_add_10 : decode uPipe_add.2.1 10 = .ok (.getfield 11, 3) := by decide +kernel
theorem dPipe_add_13 : decode uPipe_add.2.1 13 = .ok (.aload_n 0, 1) := by decide +kernel
theorem dPipe_add_14 : decode uPipe_add.2.1 14 = .ok (.getfield 17, 3) := by decide +kernel
theorem dPipe_add_17 : decode uPipe_add.2.1 17 = .ok (.aload_n 0, 1) := by decide +kernel
theorem dPipe_add_18 : decode uPipe_add.2.1 18 = .ok (.getfield 21, 3) := by decide +kernel
theorem dPipe_add_21 : decode uPipe_add.2.1 21 = .ok (.iadd, 1) := by decide +kernel
theorem dPipe_add_22 : decode uPipe_add.2.1 22 = .ok (.bipush 48, 2) := by decide +kernel
theorem dPipe_add_24 : decode uPipe_add.2.1 24 = .ok (.irem, 1) := by decide +kernel
theorem dPipe_add_25 : decode uPipe_add.2.1 25 = .ok (.aload_n 1, 1) := by decide +kernel
theorem dPipe_add_26 : decode uPipe_add.2.1 26 = .ok (.aastore, 1) := by decide +kernel
theorem dPipe_add_27 : decode uPipe_add.2.1 27 = .ok (.aload_n 0, 1) := by decide +kernel
theorem dPipe_add_28 : decode uPipe_add.2.1 28 = .ok (.dup, 1) := by decide +kernel
theorem dPipe_add_29 : decode uPipe_add.2.1 29 = .ok (.getfield 21, 3) := by decide +kernel
theorem dPipe_add_32 : decode uPipe_add.2.1 32 = .ok (.iconst 1, 1) := by decide +kernel
theorem dPipe_add_33 : decode uPipe_add.2.1 33 = .ok (.iadd, 1) := by decide +kernel
theorem dPipe_add_34 : decode uPipe_add.2.1 34 = .ok (.putfield 21, 3) := by decide +kernel
theorem dPipe_add_37 : decode uPipe_add.2.1 37 = .ok (.return_, 1) := by decide +kernel
theorem dPipe_get_0 : decode uPipe_get.2.1 0 = .ok (.iload_n 1, 1) := by decide +kernel
theorem dPipe_get_1 : decode uPipe_get.2.1 1 = .ok (.ifCond .lt 28, 3) := by decide +kernel
theorem dPipe_get_4 : decode uPipe_get.2.1 4 = .ok (.iload_n 1, 1) := by decide +kernel
theorem dPipe_get_5 : decode uPipe_get.2.1 5 = .ok (.aload_n 0, 1) := by decide +kernel
theorem dPipe_get_6 : decode uPipe_get.2.1 6 = .ok (.getfield 21, 3) := by decide +kernel
theorem dPipe_get_9 : decode uPipe_get.2.1 9 = .ok (.if_icmp .ge 20, 3) := by decide +kernel
theorem dPipe_get_12 : decode uPipe_get.2.1 12 = .ok (.aload_n 0, 1) := by decide +kernel
theorem dPipe_get_13 : decode uPipe_get.2.1 13 = .ok (.getfield 11, 3) := by decide +kernel
theorem dPipe_get_16 : decode uPipe_get.2.1 16 = .ok (.aload_n 0, 1) := by decide +kernel
theorem dPipe_get_17 : decode uPipe_get.2.1 17 = .ok (.getfield 17, 3) := by decide +kernel
theorem dPipe_get_20 : decode uPipe_get.2.1 20 = .ok (.iload_n 1, 1) := by decide +kernel
theorem dPipe_get_21 : decode uPipe_get.2.1 21 = .ok (.iadd, 1) := by decide +kernel
theorem dPipe_get_22 : decode uPipe_get.2.1 22 = .ok (.bipush 48, 2) := by decide +kernel
theorem dPipe_get_24 : decode uPipe_get.2.1 24 = .ok (.irem, 1) := by decide +kernel
theorem dPipe_get_25 : decode uPipe_get.2.1 25 = .ok (.aaload, 1) := by decide +kernel
theorem dPipe_get_26 : decode uPipe_get.2.1 26 = .ok (.goto 4, 3) := by decide +kernel
theorem dPipe_get_29 : decode uPipe_get.2.1 29 = .ok (.aconst_null, 1) := by decide +kernel
theorem dPipe_get_30 : decode uPipe_get.2.1 30 = .ok (.areturn, 1) := by decide +kernel
theorem cfw_Pipe : ∀ k, k < 3 → u_lay "InterleavedLink$Pipe" T_Pipe k ∈ gW
  | 0, _ => gW_in 100 (by decide +kernel) rfl
  | 1, _ => gW_in 102 (by decide +kernel) rfl
  | 2, _ => gW_in 104 (by decide +kernel) rfl
  | (_ + 3), h => absurd h (by omega)
theorem cf_Pipe : cF 1 "InterleavedLink$Pipe" T_Pipe 3 := ⟨by decide, rfl, fun w hw => by
  obtain ⟨k, hk, rfl⟩ := List.mem_map.mp hw
  exact cfw_Pipe k (List.mem_range.mp hk), by decide +kernel, ty_Pipe, by decide +kernel⟩
theorem fs_Pipe_21 : fS "InterleavedLink$Pipe" 21 1 2 := ⟨"InterleavedLink$Pipe", T_Pipe, 3, cf_Pipe, by decide, Or.inl (gW_in 98 (by decide +kernel) rfl)⟩
theorem fs_Pipe_11 : fS "InterleavedLink$Pipe" 11 1 0 := ⟨"InterleavedLink$Pipe", T_Pipe, 3, cf_Pipe, by decide, Or.inl (gW_in 96 (by decide +kernel) rfl)⟩
theorem fs_Pipe_17 : fS "InterleavedLink$Pipe" 17 1 1 := ⟨"InterleavedLink$Pipe", T_Pipe, 3, cf_Pipe, by decide, Or.inl (gW_in 97 (by decide +kernel) rfl)⟩
theorem ps_Pipe_21 {nm : String} : pS "InterleavedLink$Pipe" nm 21 1 2 .int := ⟨"InterleavedLink$Pipe", T_Pipe, 3, cf_Pipe, by decide, by decide +kernel, Or.inl ⟨rfl, Or.inl (gW_in 98 (by decide +kernel) rfl)⟩⟩
/-! ===== Pipe ===== -/
set_option maxRecDepth 100000 in
set_option maxHeartbeats 4000000 in
theorem ct_Pipe_isFull {X : mX} {l : Launch} {M : mM} {p : Nat} (hp : (mT M p).1 = 1) : Ct X l uPipe_isFull (rk 0 0) [.ref p] M (fun r M' => r = some (.int (if mI M p 2 < 30 then 0 else 1)) ∧ M' = M) := by
  refine Ct.of (by decide) (Nat.le_of_ble_eq_true rfl) ?_
  show G X l uPipe_isFull (rk 0 0) 0 0 M 0 [some (.ref p)] [] _
  refine g_aload_n 0 dPipe_isFull_0 rfl ?_
  refine g_geti 1 1 2 dPipe_isFull_1 fs_Pipe_21 rfl hp ?_
  refine g_bipush 4 30 dPipe_isFull_4 rfl ?_
  refine g_icmp_lt 6 13 dPipe_isFull_6 rfl (fun h6 => ?_) (fun h6 => ?_)
  · refine g_iconst 13 0 dPipe_isFull_13 rfl ?_
    exact g_zret 14 dPipe_isFull_14 rfl (by decide) ⟨by simp_all, rfl⟩
  · refine g_iconst 9 1 dPipe_isFull_9 rfl ?_
    refine g_goto 10 14 dPipe_isFull_10 rfl ?_
    exact g_zret 14 dPipe_isFull_14 rfl (by decide) ⟨by simp_all, rfl⟩

set_option maxRecDepth 100000 in
set_option maxHeartbeats 4000000 in
theorem ct_Pipe_add {X : mX} {l : Launch} {M : mM} {p r f i n : Nat} (hp : (mT M p).1 = 1) (hr : mR M p 0 = some r) (hrT : mT M r = (104, 48)) (hf : (mT M f).1 = 12) (h1 : mI M p 1 = nI i) (h2 : mI M p 2 = nI n) (hi : i < 48) (hn : n < 48) : Ct X l uPipe_add (rk 0 0) [.ref p, .ref f] M (fun r' M' => r' = none ∧ M' = setI (setR M r ((i + n) % 48) (some f)) p 2 (nI (n + 1))) := by
  refine Ct.of (by decide) (Nat.le_of_ble_eq_true rfl) ?_
  show G X l uPipe_add (rk 0 0) 0 0 M 0 [some (.ref p), some (.ref f)] [] _
  have hix : mI M p 1 + mI M p 2 - (mI M p 1 + mI M p 2) / 48 * 48 = nI ((i + n) % 48) := by rw [h1, h2, nI_add]; exact rem48 (by omega)
  refine g_aload_n 0 dPipe_add_0 rfl ?_
  refine g_geti 1 1 2 dPipe_add_1 fs_Pipe_21 rfl hp ?_
  refine g_bipush 4 48 dPipe_add_4 rfl ?_
  refine g_icmp_ge 6 37 dPipe_add_6 rfl (fun h6 => ?_) (fun h6 => ?_)
  · exact absurd h6 (by rw [h2]; exact nI_ge hn (by decide))
  · refine g_aload_n 9 dPipe_add_9 rfl ?_
    refine g_getr 10 1 0 dPipe_add_10 fs_Pipe_11 rfl hp hr ?_
    refine g_aload_n 13 dPipe_add_13 rfl ?_
    refine g_geti 14 1 1 dPipe_add_14 fs_Pipe_17 rfl hp ?_
    refine g_aload_n 17 dPipe_add_17 rfl ?_
    refine g_geti 18 1 2 dPipe_add_18 fs_Pipe_21 rfl hp ?_
    refine g_iadd 21 dPipe_add_21 ?_
    refine g_bipush 22 48 dPipe_add_22 rfl ?_
    refine g_irem 24 dPipe_add_24 (by decide) ?_
    refine g_aload_n 25 dPipe_add_25 rfl ?_
    refine g_aast 26 4 dPipe_add_26 rfl (by decide) hrT (by rw [hix]; exact vp_in_nI (Nat.mod_lt _ (by decide)) (by decide)) hf (by decide) rfl ?_
    refine g_aload_n 27 dPipe_add_27 rfl ?_
    refine g_dup 28 dPipe_add_28 rfl ?_
    refine g_geti 29 1 2 dPipe_add_29 fs_Pipe_21 rfl hp ?_
    refine g_iconst 32 1 dPipe_add_32 rfl ?_
    refine g_iadd 33 dPipe_add_33 ?_
    refine g_puti 34 1 2 dPipe_add_34 ps_Pipe_21 rfl hp ?_
    exact g_vret 37 dPipe_add_37 rfl ⟨rfl, by rw [hix, nI_clamp (Nat.lt_of_lt_of_le (Nat.mod_lt _ (by decide)) (by decide : 48 ≤ 2 ^ 31)), mI_setR, h2, nI_1]⟩

set_option maxRecDepth 100000 in
set_option maxHeartbeats 4000000 in
theorem ct_Pipe_get {X : mX} {l : Launch} {M : mM} {p r i n k : Nat} {o : Option Nat} (hp : (mT M p).1 = 1) (hr : mR M p 0 = some r) (hrT : mT M r = (104, 48)) (h1 : mI M p 1 = nI i) (h2 : mI M p 2 = nI n) (hi : i < 48) (hk : k < n) (hn : n ≤ 48) (ho : mR M r ((i + k) % 48) = o) : Ct X l uPipe_get (rk 0 0) [.ref p, .int (nI k)] M (fun r' M' => r' = some (va_rf o) ∧ M' = M) := by
  refine Ct.of (by decide) (Nat.le_of_ble_eq_true rfl) ?_
  show G X l uPipe_get (rk 0 0) 0 0 M 0 [some (.ref p), some (.int (nI k))] [] _
  have hix : mI M p 1 + nI k - (mI M p 1 + nI k) / 48 * 48 = nI ((i + k) % 48) := by rw [h1, nI_add]; exact rem48 (by omega)
  cases o with
  | none =>
    refine g_iload_n 0 dPipe_get_0 rfl ?_
    refine g_if_lt 1 29 dPipe_get_1 rfl (fun h1 => ?_) (fun h1 => ?_)
    · exact absurd h1 (nI_pos (by omega))
    · refine g_iload_n 4 dPipe_get_4 rfl ?_
      refine g_aload_n 5 dPipe_get_5 rfl ?_
      refine g_geti 6 1 2 dPipe_get_6 fs_Pipe_21 rfl hp ?_
      refine g_icmp_ge 9 29 dPipe_get_9 rfl (fun h9 => ?_) (fun h9 => ?_)
      · exact absurd h9 (by rw [h2]; exact nI_ge hk (by omega))
      · refine g_aload_n 12 dPipe_get_12 rfl ?_
        refine g_getr 13 1 0 dPipe_get_13 fs_Pipe_11 rfl hp hr ?_
        refine g_aload_n 16 dPipe_get_16 rfl ?_
        refine g_geti 17 1 1 dPipe_get_17 fs_Pipe_17 rfl hp ?_
        refine g_iload_n 20 dPipe_get_20 rfl ?_
        refine g_iadd 21 dPipe_get_21 ?_
        refine g_bipush 22 48 dPipe_get_22 rfl ?_
        refine g_irem 24 dPipe_get_24 (by decide) ?_
        refine g_aald 25 4 (o := none) dPipe_get_25 rfl (by decide) hrT (by rw [hix]; exact vp_in_nI (Nat.mod_lt _ (by decide)) (by decide)) (by rw [hix, nI_clamp (Nat.lt_of_lt_of_le (Nat.mod_lt _ (by decide)) (by decide : 48 ≤ 2 ^ 31))]; exact ho) ?_
        refine g_goto 26 30 dPipe_get_26 rfl ?_
        exact g_aretN 30 dPipe_get_30 rfl (Or.inl ⟨_, rfl⟩) ⟨rfl, rfl⟩
  | some b =>
    refine g_iload_n 0 dPipe_get_0 rfl ?_
    refine g_if_lt 1 29 dPipe_get_1 rfl (fun h1 => ?_) (fun h1 => ?_)
    · exact absurd h1 (nI_pos (by omega))
    · refine g_iload_n 4 dPipe_get_4 rfl ?_
      refine g_aload_n 5 dPipe_get_5 rfl ?_
      refine g_geti 6 1 2 dPipe_get_6 fs_Pipe_21 rfl hp ?_
      refine g_icmp_ge 9 29 dPipe_get_9 rfl (fun h9 => ?_) (fun h9 => ?_)
      · exact absurd h9 (by rw [h2]; exact nI_ge hk (by omega))
      · refine g_aload_n 12 dPipe_get_12 rfl ?_
        refine g_getr 13 1 0 dPipe_get_13 fs_Pipe_11 rfl hp hr ?_
        refine g_aload_n 16 dPipe_get_16 rfl ?_
        refine g_geti 17 1 1 dPipe_get_17 fs_Pipe_17 rfl hp ?_
        refine g_iload_n 20 dPipe_get_20 rfl ?_
        refine g_iadd 21 dPipe_get_21 ?_
        refine g_bipush 22 48 dPipe_get_22 rfl ?_
        refine g_irem 24 dPipe_get_24 (by decide) ?_
        refine g_aald 25 4 (o := some b) dPipe_get_25 rfl (by decide) hrT (by rw [hix]; exact vp_in_nI (Nat.mod_lt _ (by decide)) (by decide)) (by rw [hix, nI_clamp (Nat.lt_of_lt_of_le (Nat.mod_lt _ (by decide)) (by decide : 48 ≤ 2 ^ 31))]; exact ho) ?_
        refine g_goto 26 30 dPipe_get_26 rfl ?_
        exact g_aret 30 dPipe_get_30 rfl (Or.inl ⟨_, rfl⟩) ⟨rfl, rfl⟩
end
section
theorem dPipe_init_0 : decode uPipe_init.2.1 0 = .ok (.aload_n 0, 1) := by decide +kernel
theorem dPipe_init_1 : decode uPipe_init.2.1 1 = .ok (.invokespecial 3, 3) := by decide +kernel
theorem dPipe_init_4 : decode uPipe_init.2.1 4 = .ok (.aload_n 0, 1) := by decide +kernel
theorem dPipe_init_5 : decode uPipe_init.2.1 5 = .ok (.bipush 48, 2) := by decide +kernel
theorem dPipe_init_7 : decode uPipe_init.2.1 7 = .ok (.anewarray 9, 3) := by decide +kernel
theorem dPipe_init_10 : decode uPipe_init.2.1 10 = .ok (.putfield 11, 3) := by decide +kernel
theorem dPipe_init_13 : decode uPipe_init.2.1 13 = .ok (.aload_n 0, 1) := by decide +kernel
theorem dPipe_init_14 : decode uPipe_init.2.1 14 = .ok (.iconst 0, 1) := by decide +kernel
theorem dPipe_init_15 : decode uPipe_init.2.1 15 = .ok (.putfield 17, 3) := by decide +kernel
theorem dPipe_init_18 : decode uPipe_init.2.1 18 = .ok (.aload_n 0, 1) := by decide +kernel
theorem dPipe_init_19 : decode uPipe_init.2.1 19 = .ok (.iconst 0, 1) := by decide +kernel
theorem dPipe_init_20 : decode uPipe_init.2.1 20 = .ok (.putfield 21, 3) := by decide +kernel
theorem dPipe_init_23 : decode uPipe_init.2.1 23 = .ok (.return_, 1) := by decide +kernel
theorem dFList_init_0 : decode uFList_init.2.1 0 = .ok (.aload_n 0, 1) := by decide +kernel
theorem dFList_init_1 : decode uFList_init.2.1 1 = .ok (.invokespecial 3, 3) := by decide +kernel
theorem dFList_init_4 : decode uFList_init.2.1 4 = .ok (.aload_n 0, 1) := by decide +kernel
theorem dFList_init_5 : decode uFList_init.2.1 5 = .ok (.bipush 6, 2) := by decide +kernel
theorem dFList_init_7 : decode uFList_init.2.1 7 = .ok (.newarray .int, 2) := by decide +kernel
theorem dFList_init_9 : decode uFList_init.2.1 9 = .ok (.putfield 9, 3) := by decide +kernel
theorem dFList_init_12 : decode uFList_init.2.1 12 = .ok (.aload_n 0, 1) := by decide +kernel
theorem dFList_init_13 : decode uFList_init.2.1 13 = .ok (.bipush 6, 2) := by decide +kernel
theorem dFList_init_15 : decode uFList_init.2.1 15 = .ok (.newarray .int, 2) := by decide +kernel
theorem dFList_init_17 : decode uFList_init.2.1 17 = .ok (.putfield 15, 3) := by decide +kernel
theorem dFList_init_20 : decode uFList_init.2.1 20 = .ok (.aload_n 0, 1) := by decide +kernel
theorem dFList_init_21 : decode uFList_init.2.1 21 = .ok (.bipush 6, 2) := by decide +kernel
theorem dFList_init_23 : decode uFList_init.2.1 23 = .ok (.newarray .boolean, 2) := by decide +kernel
theorem dFList_init_25 : decode uFList_init.2.1 25 = .ok (.putfield 18, 3) := by decide +kernel
theorem dFList_init_28 : decode uFList_init.2.1 28 = .ok (.aload_n 0, 1) := by decide +kernel
theorem dFList_init_29 : decode uFList_init.2.1 29 = .ok (.iconst 0, 1) := by decide +kernel
theorem dFList_init_30 : decode uFList_init.2.1 30 = .ok (.putfield 22, 3) := by decide +kernel
theorem dFList_init_33 : decode uFList_init.2.1 33 = .ok (.return_, 1) := by decide +kernel
theorem dTable_init_0 : decode uTable_init.2.1 0 = .ok (.aload_n 0, 1) := by decide +kernel
theorem dTable_init_1 : decode uTable_init.2.1 1 = .ok (.invokespecial 3, 3) := by decide +kernel
theorem dTable_init_4 : decode uTable_init.2.1 4 = .ok (.aload_n 0, 1) := by decide +kernel
theorem dTable_init_5 : decode uTable_init.2.1 5 = .ok (.iconst 5, 1) := by decide +kernel
theorem dTable_init_6 : decode uTable_init.2.1 6 = .ok (.newarray .int, 2) := by decide +kernel
theorem dTable_init_8 : decode uTable_init.2.1 8 = .ok (.putfield 9, 3) := by decide +kernel
theorem dTable_init_11 : decode uTable_init.2.1 11 = .ok (.aload_n 0, 1) := by decide +kernel
theorem dTable_init_12 : decode uTable_init.2.1 12 = .ok (.iconst 5, 1) := by decide +kernel
theorem dTable_init_13 : decode uTable_init.2.1 13 = .ok (.newarray .int, 2) := by decide +kernel
theorem dTable_init_15 : decode uTable_init.2.1 15 = .ok (.putfield 15, 3) := by decide +kernel
theorem dTable_init_18 : decode uTable_init.2.1 18 = .ok (.aload_n 0, 1) := by decide +kernel
theorem dTable_init_19 : decode uTable_init.2.1 19 = .ok (.iconst 5, 1) := by decide +kernel
theorem dTable_init_20 : decode uTable_init.2.1 20 = .ok (.newarray .int, 2) := by decide +kernel
theorem dTable_init_22 : decode uTable_init.2.1 22 = .ok (.putfield 18, 3) := by decide +kernel
theorem dTable_init_25 : decode uTable_init.2.1 25 = .ok (.aload_n 0, 1) := by decide +kernel
theorem dTable_init_26 : decode uTable_init.2.1 26 = .ok (.iconst 0, 1) := by decide +kernel
theorem dTable_init_27 : decode uTable_init.2.1 27 = .ok (.putfield 21, 3) := by decide +kernel
theorem dTable_init_30 : decode uTable_init.2.1 30 = .ok (.aload_n 0, 1) := by decide +kernel
theorem dTable_init_31 : decode uTable_init.2.1 31 = .ok (.iconst 0, 1) := by decide +kernel
theorem dTable_init_32 : decode uTable_init.2.1 32 = .ok (.putfield 25, 3) := by decide +kernel
theorem dTable_init_35 : decode uTable_init.2.1 35 = .ok (.aload_n 0, 1) := by decide +kernel
theorem dTable_init_36 : decode uTable_init.2.1 36 = .ok (.bipush 100, 2) := by decide +kernel
theorem dTable_init_38 : decode uTable_init.2.1 38 = .ok (.putfield 30, 3) := by decide +kernel
theorem dTable_init_41 : decode uTable_init.2.1 41 = .ok (.return_, 1) := by decide +kernel
theorem dSett_init_0 : decode uSett_init.2.1 0 = .ok (.aload_n 0, 1) := by decide +kernel
theorem dSett_init_1 : decode uSett_init.2.1 1 = .ok (.invokespecial 3, 3) := by decide +kernel
theorem dSett_init_4 : decode uSett_init.2.1 4 = .ok (.aload_n 0, 1) := by decide +kernel
theorem dSett_init_5 : decode uSett_init.2.1 5 = .ok (.bipush 100, 2) := by decide +kernel
theorem dSett_init_7 : decode uSett_init.2.1 7 = .ok (.putfield 11, 3) := by decide +kernel
theorem dSett_init_10 : decode uSett_init.2.1 10 = .ok (.aload_n 0, 1) := by decide +kernel
theorem dSett_init_11 : decode uSett_init.2.1 11 = .ok (.bipush 12, 2) := by decide +kernel
theorem dSett_init_13 : decode uSett_init.2.1 13 = .ok (.putfield 15, 3) := by decide +kernel
theorem dSett_init_16 : decode uSett_init.2.1 16 = .ok (.aload_n 0, 1) := by decide +kernel
theorem dSett_init_17 : decode uSett_init.2.1 17 = .ok (.bipush 16, 2) := by decide +kernel
theorem dSett_init_19 : decode uSett_init.2.1 19 = .ok (.putfield 18, 3) := by decide +kernel
theorem dSett_init_22 : decode uSett_init.2.1 22 = .ok (.return_, 1) := by decide +kernel
theorem dBQ_init_0 : decode uBQ_init.2.1 0 = .ok (.aload_n 0, 1) := by decide +kernel
theorem dBQ_init_1 : decode uBQ_init.2.1 1 = .ok (.invokespecial 1, 3) := by decide +kernel
theorem dBQ_init_4 : decode uBQ_init.2.1 4 = .ok (.aload_n 0, 1) := by decide +kernel
theorem dBQ_init_5 : decode uBQ_init.2.1 5 = .ok (.iconst 0, 1) := by decide +kernel
theorem dBQ_init_6 : decode uBQ_init.2.1 6 = .ok (.putfield 7, 3) := by decide +kernel
theorem dBQ_init_9 : decode uBQ_init.2.1 9 = .ok (.aload_n 0, 1) := by decide +kernel
theorem dBQ_init_10 : decode uBQ_init.2.1 10 = .ok (.iload_n 1, 1) := by decide +kernel
theorem dBQ_init_11 : decode uBQ_init.2.1 11 = .ok (.newarray .byte, 2) := by decide +kernel
theorem dBQ_init_13 : decode uBQ_init.2.1 13 = .ok (.putfield 13, 3) := by decide +kernel
theorem dBQ_init_16 : decode uBQ_init.2.1 16 = .ok (.return_, 1) := by decide +kernel
theorem oi_Pipe_3 : Cond.methodLink "InterleavedLink$Pipe" 3 Lib.objectInit ∈ gW := gW_in 93 (by decide +kernel) rfl
theorem oi_m : Cond.instanceMethod Lib.objectInit ∈ gW := gW_in 86 (by decide +kernel) rfl
theorem oi_c : Cond.code Lib.objectInit ⟨#[0xb1]⟩ 1 none ∈ gW := gW_in 87 (by decide +kernel) rfl
theorem al_Pipe_9 : Cond.classLink "InterleavedLink$Pipe" 9 (aoC 4) ∈ gW := gW_in 94 (by decide +kernel) rfl
theorem ps_Pipe_11 : pS "InterleavedLink$Pipe" "<init>" 11 1 0 (.array (.object "InterleavedLink$Frame")) := ⟨"InterleavedLink$Pipe", T_Pipe, 3, cf_Pipe, by decide, by decide +kernel, Or.inr ⟨rfl, rfl, rfl, (gW_in 96 (by decide +kernel) rfl)⟩⟩
theorem ps_Pipe_17 {nm : String} : pS "InterleavedLink$Pipe" nm 17 1 1 .int := ⟨"InterleavedLink$Pipe", T_Pipe, 3, cf_Pipe, by decide, by decide +kernel, Or.inl ⟨rfl, Or.inl (gW_in 97 (by decide +kernel) rfl)⟩⟩
theorem oi_FList_3 : Cond.methodLink "InterleavedLink$FieldList" 3 Lib.objectInit ∈ gW := gW_in 119 (by decide +kernel) rfl
theorem aw_int : Cond.arrayClass .int ∈ gW := gW_in 141 (by decide +kernel) rfl
theorem cfw_FList : ∀ k, k < 4 → u_lay "InterleavedLink$FieldList" T_FList k ∈ gW
  | 0, _ => gW_in 132 (by decide +kernel) rfl
  | 1, _ => gW_in 134 (by decide +kernel) rfl
  | 2, _ => gW_in 136 (by decide +kernel) rfl
  | 3, _ => gW_in 138 (by decide +kernel) rfl
  | (_ + 4), h => absurd h (by omega)
theorem cf_FList : cF 3 "InterleavedLink$FieldList" T_FList 4 := ⟨by decide, rfl, fun w hw => by
  obtain ⟨k, hk, rfl⟩ := List.mem_map.mp hw
  exact cfw_FList k (List.mem_range.mp hk), by decide +kernel, ty_FList, by decide +kernel⟩
theorem ps_FList_9 : pS "InterleavedLink$FieldList" "<init>" 9 3 0 (.array .int) := ⟨"InterleavedLink$FieldList", T_FList, 4, cf_FList, by decide, by decide +kernel, Or.inr ⟨rfl, rfl, rfl, (gW_in 120 (by decide +kernel) rfl)⟩⟩
theorem ps_FList_15 : pS "InterleavedLink$FieldList" "<init>" 15 3 1 (.array .int) := ⟨"InterleavedLink$FieldList", T_FList, 4, cf_FList, by decide, by decide +kernel, Or.inr ⟨rfl, rfl, rfl, (gW_in 123 (by decide +kernel) rfl)⟩⟩
theorem aw_boolean : Cond.arrayClass .boolean ∈ gW := gW_in 142 (by decide +kernel) rfl
theorem ps_FList_18 : pS "InterleavedLink$FieldList" "<init>" 18 3 2 (.array .boolean) := ⟨"InterleavedLink$FieldList", T_FList, 4, cf_FList, by decide, by decide +kernel, Or.inr ⟨rfl, rfl, rfl, (gW_in 126 (by decide +kernel) rfl)⟩⟩
theorem ps_FList_22 {nm : String} : pS "InterleavedLink$FieldList" nm 22 3 3 .int := ⟨"InterleavedLink$FieldList", T_FList, 4, cf_FList, by decide, by decide +kernel, Or.inl ⟨rfl, Or.inl (gW_in 128 (by decide +kernel) rfl)⟩⟩
theorem oi_Table_3 : Cond.methodLink "InterleavedLink$Table" 3 Lib.objectInit ∈ gW := gW_in 154 (by decide +kernel) rfl
theorem cfw_Table : ∀ k, k < 6 → u_lay "InterleavedLink$Table" T_Table k ∈ gW
  | 0, _ => gW_in 166 (by decide +kernel) rfl
  | 1, _ => gW_in 168 (by decide +kernel) rfl
  | 2, _ => gW_in 170 (by decide +kernel) rfl
  | 3, _ => gW_in 172 (by decide +kernel) rfl
  | 4, _ => gW_in 174 (by decide +kernel) rfl
  | 5, _ => gW_in 176 (by decide +kernel) rfl
  | (_ + 6), h => absurd h (by omega)
theorem cf_Table : cF 5 "InterleavedLink$Table" T_Table 6 := ⟨by decide, rfl, fun w hw => by
  obtain ⟨k, hk, rfl⟩ := List.mem_map.mp hw
  exact cfw_Table k (List.mem_range.mp hk), by decide +kernel, ty_Table, by decide +kernel⟩
theorem ps_Table_9 : pS "InterleavedLink$Table" "<init>" 9 5 0 (.array .int) := ⟨"InterleavedLink$Table", T_Table, 6, cf_Table, by decide, by decide +kernel, Or.inr ⟨rfl, rfl, rfl, (gW_in 155 (by decide +kernel) rfl)⟩⟩
theorem ps_Table_15 : pS "InterleavedLink$Table" "<init>" 15 5 1 (.array .int) := ⟨"InterleavedLink$Table", T_Table, 6, cf_Table, by decide, by decide +kernel, Or.inr ⟨rfl, rfl, rfl, (gW_in 156 (by decide +kernel) rfl)⟩⟩
theorem ps_Table_18 : pS "InterleavedLink$Table" "<init>" 18 5 2 (.array .int) := ⟨"InterleavedLink$Table", T_Table, 6, cf_Table, by decide, by decide +kernel, Or.inr ⟨rfl, rfl, rfl, (gW_in 158 (by decide +kernel) rfl)⟩⟩
theorem ps_Table_21 {nm : String} : pS "InterleavedLink$Table" nm 21 5 3 .int := ⟨"InterleavedLink$Table", T_Table, 6, cf_Table, by decide, by decide +kernel, Or.inl ⟨rfl, Or.inl (gW_in 159 (by decide +kernel) rfl)⟩⟩
theorem ps_Table_25 {nm : String} : pS "InterleavedLink$Table" nm 25 5 4 .int := ⟨"InterleavedLink$Table", T_Table, 6, cf_Table, by decide, by decide +kernel, Or.inl ⟨rfl, Or.inl (gW_in 161 (by decide +kernel) rfl)⟩⟩
theorem ps_Table_30 {nm : String} : pS "InterleavedLink$Table" nm 30 5 5 .int := ⟨"InterleavedLink$Table", T_Table, 6, cf_Table, by decide, by decide +kernel, Or.inl ⟨rfl, Or.inl (gW_in 163 (by decide +kernel) rfl)⟩⟩
theorem oi_Sett_3 : Cond.methodLink "InterleavedLink$Settings" 3 Lib.objectInit ∈ gW := gW_in 216 (by decide +kernel) rfl
theorem cfw_Sett : ∀ k, k < 3 → u_lay "InterleavedLink$Settings" T_Sett k ∈ gW
  | 0, _ => gW_in 223 (by decide +kernel) rfl
  | 1, _ => gW_in 225 (by decide +kernel) rfl
  | 2, _ => gW_in 227 (by decide +kernel) rfl
  | (_ + 3), h => absurd h (by omega)
theorem cf_Sett : cF 7 "InterleavedLink$Settings" T_Sett 3 := ⟨by decide, rfl, fun w hw => by
  obtain ⟨k, hk, rfl⟩ := List.mem_map.mp hw
  exact cfw_Sett k (List.mem_range.mp hk), by decide +kernel, ty_Sett, by decide +kernel⟩
theorem ps_Sett_11 {nm : String} : pS "InterleavedLink$Settings" nm 11 7 0 .int := ⟨"InterleavedLink$Settings", T_Sett, 3, cf_Sett, by decide, by decide +kernel, Or.inl ⟨rfl, Or.inl (gW_in 217 (by decide +kernel) rfl)⟩⟩
theorem ps_Sett_15 {nm : String} : pS "InterleavedLink$Settings" nm 15 7 1 .int := ⟨"InterleavedLink$Settings", T_Sett, 3, cf_Sett, by decide, by decide +kernel, Or.inl ⟨rfl, Or.inl (gW_in 219 (by decide +kernel) rfl)⟩⟩
theorem ps_Sett_18 {nm : String} : pS "InterleavedLink$Settings" nm 18 7 2 .int := ⟨"InterleavedLink$Settings", T_Sett, 3, cf_Sett, by decide, by decide +kernel, Or.inl ⟨rfl, Or.inl (gW_in 221 (by decide +kernel) rfl)⟩⟩
theorem oi_BQ_1 : Cond.methodLink "InterleavedLink$ByteQueue" 1 Lib.objectInit ∈ gW := gW_in 240 (by decide +kernel) rfl
theorem cfw_BQ : ∀ k, k < 2 → u_lay "InterleavedLink$ByteQueue" T_BQ k ∈ gW
  | 0, _ => gW_in 245 (by decide +kernel) rfl
  | 1, _ => gW_in 247 (by decide +kernel) rfl
  | (_ + 2), h => absurd h (by omega)
theorem cf_BQ : cF 9 "InterleavedLink$ByteQueue" T_BQ 2 := ⟨by decide, rfl, fun w hw => by
  obtain ⟨k, hk, rfl⟩ := List.mem_map.mp hw
  exact cfw_BQ k (List.mem_range.mp hk), by decide +kernel, ty_BQ, by decide +kernel⟩
theorem ps_BQ_7 {nm : String} : pS "InterleavedLink$ByteQueue" nm 7 9 1 .int := ⟨"InterleavedLink$ByteQueue", T_BQ, 2, cf_BQ, by decide, by decide +kernel, Or.inl ⟨rfl, Or.inl (gW_in 242 (by decide +kernel) rfl)⟩⟩
theorem aw_byte : Cond.arrayClass .byte ∈ gW := gW_in 250 (by decide +kernel) rfl
theorem ps_BQ_13 : pS "InterleavedLink$ByteQueue" "<init>" 13 9 0 (.array .byte) := ⟨"InterleavedLink$ByteQueue", T_BQ, 2, cf_BQ, by decide, by decide +kernel, Or.inr ⟨rfl, rfl, rfl, (gW_in 241 (by decide +kernel) rfl)⟩⟩
/-! ===== constructors: what each leaves, as a function of the memory ===== -/
def mkPipe (M : mM) (t : Nat) : mM := setI (setI (setR (newM M 104 48) t 0 (some (mN M))) t 1 0) t 2 0
def mkFL (M : mM) (t : Nat) : mM := setI (setR (newM (setR (newM (setR (newM M 100 6) t 0 (some (mN M))) 100 6) t 1 (some (mN M + 1))) 102 6) t 2 (some (mN M + 2))) t 3 0
def mkTab (M : mM) (t : Nat) : mM := setI (setI (setI (setR (newM (setR (newM (setR (newM M 100 5) t 0 (some (mN M))) 100 5) t 1 (some (mN M + 1))) 100 5) t 2 (some (mN M + 2))) t 3 0) t 4 0) t 5 100
def mkEnc (M : mM) (t : Nat) : mM := setI (setI (setI (setR (mkTab (newM M 5 6) (mN M)) t 0 (some (mN M))) t 1 0) t 2 0) t 3 0
def mkDec (M : mM) (t : Nat) : mM := setI (setR (mkTab (newM M 5 6) (mN M)) t 0 (some (mN M))) t 1 0
def mkSett (M : mM) (t : Nat) : mM := setI (setI (setI M t 0 100) t 1 12) t 2 16
def mkBQ (M : mM) (t n : Nat) : mM := setR (newM (setI M t 1 0) 101 n) t 0 (some (mN M))
def mkStr (M : mM) (t : Nat) (x : Int32) : mM := setI (setR (mkBQ (newM (setR (mkBQ (newM (setR (setI (setI (setI (setI (setI (setI M t 1 0) t 2 0) t 3 0) t 4 0) t 5 0) t 6 0) t 7 none) 9 2) (mN M) 32) t 8 (some (mN M))) 9 2) (mN M + 2) 40) t 9 (some (mN M + 2))) t 0 x
set_option maxRecDepth 100000 in
set_option maxHeartbeats 4000000 in
theorem ct_Pipe_init {X : mX} {l : Launch} {M : mM} {t : Nat} (hp : (mT M t).1 = 1) : Ct X l uPipe_init (rn 1 12 1 48) [.ref t] M (fun r M' => r = none ∧ M' = mkPipe M t) := by
  refine Ct.of (by decide) (Nat.le_of_ble_eq_true rfl) ?_
  show G X l uPipe_init (rn 1 12 1 48) 1 48 M 0 [some (.ref t)] [] _
  refine G.wf fun hw => ?_
  have hlt := (hw.lt (a := t) (by rw [hp]; decide)).2
  refine g_aload_n 0 dPipe_init_0 rfl ?_
  refine g_objInit 1 dPipe_init_1 oi_Pipe_3 oi_m oi_c ⟨(Nat.le_of_ble_eq_true rfl), (Nat.le_of_ble_eq_true rfl)⟩ ?_
  refine g_aload_n 4 dPipe_init_4 rfl ?_
  refine g_bipush 5 48 dPipe_init_5 rfl ?_
  refine g_anew 7 4 48 dPipe_init_7 al_Pipe_9 rfl (by decide) (by decide) (by decide) (by decide) (Nat.le_of_ble_eq_true rfl) (Nat.le_of_ble_eq_true rfl) ?_
  refine g_putr 10 1 0 dPipe_init_10 ps_Pipe_11 rfl rfl (oT (Nat.lt_add_right 0 hlt) hp) ?_
  refine g_aload_n 13 dPipe_init_13 rfl ?_
  refine g_iconst 14 0 dPipe_init_14 rfl ?_
  refine g_puti 15 1 1 dPipe_init_15 ps_Pipe_17 rfl (oT (Nat.lt_add_right 0 hlt) hp) ?_
  refine g_aload_n 18 dPipe_init_18 rfl ?_
  refine g_iconst 19 0 dPipe_init_19 rfl ?_
  refine g_puti 20 1 2 dPipe_init_20 ps_Pipe_21 rfl (oT (Nat.lt_add_right 0 hlt) hp) ?_
  exact g_vret 23 dPipe_init_23 rfl ⟨rfl, rfl⟩

set_option maxRecDepth 100000 in
set_option maxHeartbeats 4000000 in
theorem ct_FL_init {X : mX} {l : Launch} {M : mM} {t : Nat} (hp : (mT M t).1 = 3) : Ct X l uFList_init (rn 1 12 3 18) [.ref t] M (fun r M' => r = none ∧ M' = mkFL M t) := by
  refine Ct.of (by decide) (Nat.le_of_ble_eq_true rfl) ?_
  show G X l uFList_init (rn 1 12 3 18) 3 18 M 0 [some (.ref t)] [] _
  refine G.wf fun hw => ?_
  have hlt := (hw.lt (a := t) (by rw [hp]; decide)).2
  refine g_aload_n 0 dFList_init_0 rfl ?_
  refine g_objInit 1 dFList_init_1 oi_FList_3 oi_m oi_c ⟨(Nat.le_of_ble_eq_true rfl), (Nat.le_of_ble_eq_true rfl)⟩ ?_
  refine g_aload_n 4 dFList_init_4 rfl ?_
  refine g_bipush 5 6 dFList_init_5 rfl ?_
  refine g_newa 7 0 6 dFList_init_7 aw_int rfl rfl (fun _ => rfl) (fun _ _ h => h) (by decide) (by decide) (by decide) (by decide) (Nat.le_of_ble_eq_true rfl) (Nat.le_of_ble_eq_true rfl) ?_
  refine g_putr 9 3 0 dFList_init_9 ps_FList_9 rfl rfl (oT (Nat.lt_add_right 0 hlt) hp) ?_
  refine g_aload_n 12 dFList_init_12 rfl ?_
  refine g_bipush 13 6 dFList_init_13 rfl ?_
  refine g_newa 15 0 6 dFList_init_15 aw_int rfl rfl (fun _ => rfl) (fun _ _ h => h) (by decide) (by decide) (by decide) (by decide) (Nat.le_of_ble_eq_true rfl) (Nat.le_of_ble_eq_true rfl) ?_
  refine g_putr 17 3 1 dFList_init_17 ps_FList_15 rfl rfl (oT (Nat.lt_add_right 1 hlt) (oT (Nat.lt_add_right 0 hlt) hp)) ?_
  refine g_aload_n 20 dFList_init_20 rfl ?_
  refine g_bipush 21 6 dFList_init_21 rfl ?_
  refine g_newa 23 2 6 dFList_init_23 aw_boolean rfl rfl (fun _ => rfl) (fun _ _ h => h) (by decide) (by decide) (by decide) (by decide) (Nat.le_of_ble_eq_true rfl) (Nat.le_of_ble_eq_true rfl) ?_
  refine g_putr 25 3 2 dFList_init_25 ps_FList_18 rfl rfl (oT (Nat.lt_add_right 2 hlt) (oT (Nat.lt_add_right 1 hlt) (oT (Nat.lt_add_right 0 hlt) hp))) ?_
  refine g_aload_n 28 dFList_init_28 rfl ?_
  refine g_iconst 29 0 dFList_init_29 rfl ?_
  refine g_puti 30 3 3 dFList_init_30 ps_FList_22 rfl (oT (Nat.lt_add_right 2 hlt) (oT (Nat.lt_add_right 1 hlt) (oT (Nat.lt_add_right 0 hlt) hp))) ?_
  exact g_vret 33 dFList_init_33 rfl ⟨rfl, rfl⟩

set_option maxRecDepth 100000 in
set_option maxHeartbeats 4000000 in
theorem ct_Tab_init {X : mX} {l : Launch} {M : mM} {t : Nat} (hp : (mT M t).1 = 5) : Ct X l uTable_init (rn 1 12 3 15) [.ref t] M (fun r M' => r = none ∧ M' = mkTab M t) := by
  refine Ct.of (by decide) (Nat.le_of_ble_eq_true rfl) ?_
  show G X l uTable_init (rn 1 12 3 15) 3 15 M 0 [some (.ref t)] [] _
  refine G.wf fun hw => ?_
  have hlt := (hw.lt (a := t) (by rw [hp]; decide)).2
  refine g_aload_n 0 dTable_init_0 rfl ?_
  refine g_objInit 1 dTable_init_1 oi_Table_3 oi_m oi_c ⟨(Nat.le_of_ble_eq_true rfl), (Nat.le_of_ble_eq_true rfl)⟩ ?_
  refine g_aload_n 4 dTable_init_4 rfl ?_
  refine g_iconst 5 5 dTable_init_5 rfl ?_
  refine g_newa 6 0 5 dTable_init_6 aw_int rfl rfl (fun _ => rfl) (fun _ _ h => h) (by decide) (by decide) (by decide) (by decide) (Nat.le_of_ble_eq_true rfl) (Nat.le_of_ble_eq_true rfl) ?_
  refine g_putr 8 5 0 dTable_init_8 ps_Table_9 rfl rfl (oT (Nat.lt_add_right 0 hlt) hp) ?_
  refine g_aload_n 11 dTable_init_11 rfl ?_
  refine g_iconst 12 5 dTable_init_12 rfl ?_
  refine g_newa 13 0 5 dTable_init_13 aw_int rfl rfl (fun _ => rfl) (fun _ _ h => h) (by decide) (by decide) (by decide) (by decide) (Nat.le_of_ble_eq_true rfl) (Nat.le_of_ble_eq_true rfl) ?_
  refine g_putr 15 5 1 dTable_init_15 ps_Table_15 rfl rfl (oT (Nat.lt_add_right 1 hlt) (oT (Nat.lt_add_right 0 hlt) hp)) ?_
  refine g_aload_n 18 dTable_init_18 rfl ?_
  refine g_iconst 19 5 dTable_init_19 rfl ?_
  refine g_newa 20 0 5 dTable_init_20 aw_int rfl rfl (fun _ => rfl) (fun _ _ h => h) (by decide) (by decide) (by decide) (by decide) (Nat.le_of_ble_eq_true rfl) (Nat.le_of_ble_eq_true rfl) ?_
  refine g_putr 22 5 2 dTable_init_22 ps_Table_18 rfl rfl (oT (Nat.lt_add_right 2 hlt) (oT (Nat.lt_add_right 1 hlt) (oT (Nat.lt_add_right 0 hlt) hp))) ?_
  refine g_aload_n 25 dTable_init_25 rfl ?_
  refine g_iconst 26 0 dTable_init_26 rfl ?_
  refine g_puti 27 5 3 dTable_init_27 ps_Table_21 rfl (oT (Nat.lt_add_right 2 hlt) (oT (Nat.lt_add_right 1 hlt) (oT (Nat.lt_add_right 0 hlt) hp))) ?_
  refine g_aload_n 30 dTable_init_30 rfl ?_
  refine g_iconst 31 0 dTable_init_31 rfl ?_
  refine g_puti 32 5 4 dTable_init_32 ps_Table_25 rfl (oT (Nat.lt_add_right 2 hlt) (oT (Nat.lt_add_right 1 hlt) (oT (Nat.lt_add_right 0 hlt) hp))) ?_
  refine g_aload_n 35 dTable_init_35 rfl ?_
  refine g_bipush 36 100 dTable_init_36 rfl ?_
  refine g_puti 38 5 5 dTable_init_38 ps_Table_30 rfl (oT (Nat.lt_add_right 2 hlt) (oT (Nat.lt_add_right 1 hlt) (oT (Nat.lt_add_right 0 hlt) hp))) ?_
  exact g_vret 41 dTable_init_41 rfl ⟨rfl, rfl⟩

set_option maxRecDepth 100000 in
set_option maxHeartbeats 4000000 in
theorem ct_Sett_init {X : mX} {l : Launch} {M : mM} {t : Nat} (hp : (mT M t).1 = 7) : Ct X l uSett_init (rk 1 12) [.ref t] M (fun r M' => r = none ∧ M' = mkSett M t) := by
  refine Ct.of (by decide) (Nat.le_of_ble_eq_true rfl) ?_
  show G X l uSett_init (rk 1 12) 0 0 M 0 [some (.ref t)] [] _
  refine g_aload_n 0 dSett_init_0 rfl ?_
  refine g_objInit 1 dSett_init_1 oi_Sett_3 oi_m oi_c ⟨(Nat.le_of_ble_eq_true rfl), (Nat.le_of_ble_eq_true rfl)⟩ ?_
  refine g_aload_n 4 dSett_init_4 rfl ?_
  refine g_bipush 5 100 dSett_init_5 rfl ?_
  refine g_puti 7 7 0 dSett_init_7 ps_Sett_11 rfl hp ?_
  refine g_aload_n 10 dSett_init_10 rfl ?_
  refine g_bipush 11 12 dSett_init_11 rfl ?_
  refine g_puti 13 7 1 dSett_init_13 ps_Sett_15 rfl hp ?_
  refine g_aload_n 16 dSett_init_16 rfl ?_
  refine g_bipush 17 16 dSett_init_17 rfl ?_
  refine g_puti 19 7 2 dSett_init_19 ps_Sett_18 rfl hp ?_
  exact g_vret 22 dSett_init_22 rfl ⟨rfl, rfl⟩

set_option maxRecDepth 100000 in
set_option maxHeartbeats 4000000 in
theorem ct_BQ_init {X : mX} {l : Launch} {M : mM} {t n : Nat} (hp : (mT M t).1 = 9) (hn : n ≤ 40) : Ct X l uBQ_init (rn 1 12 1 40) [.ref t, .int (nI n)] M (fun r M' => r = none ∧ M' = mkBQ M t n) := by
  refine Ct.of (by decide) (Nat.le_of_ble_eq_true rfl) ?_
  show G X l uBQ_init (rn 1 12 1 40) 1 40 M 0 [some (.ref t), some (.int (nI n))] [] _
  refine G.wf fun hw => ?_
  have hlt := (hw.lt (a := t) (by rw [hp]; decide)).2
  refine g_aload_n 0 dBQ_init_0 rfl ?_
  refine g_objInit 1 dBQ_init_1 oi_BQ_1 oi_m oi_c ⟨(Nat.le_of_ble_eq_true rfl), (Nat.le_of_ble_eq_true rfl)⟩ ?_
  refine g_aload_n 4 dBQ_init_4 rfl ?_
  refine g_iconst 5 0 dBQ_init_5 rfl ?_
  refine g_puti 6 9 1 dBQ_init_6 ps_BQ_7 rfl hp ?_
  refine g_aload_n 9 dBQ_init_9 rfl ?_
  refine g_iload_n 10 dBQ_init_10 rfl ?_
  refine g_newa 11 1 40 dBQ_init_11 aw_byte rfl rfl (fun _ => rfl) (fun _ _ h => h) (by decide) (nI_pos (by omega)) (by rw [nI_clamp (by omega)]; exact hn) (by decide) (Nat.le_of_ble_eq_true rfl) (Nat.le_of_ble_eq_true rfl) ?_
  refine g_putr 13 9 0 dBQ_init_13 ps_BQ_13 rfl rfl (oT (Nat.lt_add_right 0 hlt) hp) ?_
  exact g_vret 16 dBQ_init_16 rfl ⟨rfl, by rw [nI_clamp (by omega)]; rfl⟩
end
section
theorem dEnc_init_0 : decode uEnc_init.2.1 0 = .ok (.aload_n 0, 1) := by decide +kernel
theorem dEnc_init_1 : decode uEnc_init.2.1 1 = .ok (.invokespecial 3, 3) := by decide +kernel
theorem dEnc_init_4 : decode uEnc_init.2.1 4 = .ok (.aload_n 0, 1) := by decide +kernel
theorem dEnc_init_5 : decode uEnc_init.2.1 5 = .ok (.new 9, 3) := by decide +kernel
theorem dEnc_init_8 : decode uEnc_init.2.1 8 = .ok (.dup, 1) := by decide +kernel
theorem dEnc_init_9 : decode uEnc_init.2.1 9 = .ok (.invokespecial 11, 3) := by decide +kernel
theorem dEnc_init_12 : decode uEnc_init.2.1 12 = .ok (.putfield 12, 3) := by decide +kernel
theorem dEnc_init_15 : decode uEnc_init.2.1 15 = .ok (.aload_n 0, 1) := by decide +kernel
theorem dEnc_init_16 : decode uEnc_init.2.1 16 = .ok (.iconst 0, 1) := by decide +kernel
theorem dEnc_init_17 : decode uEnc_init.2.1 17 = .ok (.putfield 18, 3) := by decide +kernel
theorem dEnc_init_20 : decode uEnc_init.2.1 20 = .ok (.aload_n 0, 1) := by decide +kernel
theorem dEnc_init_21 : decode uEnc_init.2.1 21 = .ok (.iconst 0, 1) := by decide +kernel
theorem dEnc_init_22 : decode uEnc_init.2.1 22 = .ok (.putfield 22, 3) := by decide +kernel
theorem dEnc_init_25 : decode uEnc_init.2.1 25 = .ok (.aload_n 0, 1) := by decide +kernel
theorem dEnc_init_26 : decode uEnc_init.2.1 26 = .ok (.iconst 0, 1) := by decide +kernel
theorem dEnc_init_27 : decode uEnc_init.2.1 27 = .ok (.putfield 26, 3) := by decide +kernel
theorem dEnc_init_30 : decode uEnc_init.2.1 30 = .ok (.return_, 1) := by decide +kernel
theorem dDec_init_0 : decode uDec_init.2.1 0 = .ok (.aload_n 0, 1) := by decide +kernel
theorem dDec_init_1 : decode uDec_init.2.1 1 = .ok (.invokespecial 3, 3) := by decide +kernel
theorem dDec_init_4 : decode uDec_init.2.1 4 = .ok (.aload_n 0, 1) := by decide +kernel
theorem dDec_init_5 : decode uDec_init.2.1 5 = .ok (.new 9, 3) := by decide +kernel
theorem dDec_init_8 : decode uDec_init.2.1 8 = .ok (.dup, 1) := by decide +kernel
theorem dDec_init_9 : decode uDec_init.2.1 9 = .ok (.invokespecial 11, 3) := by decide +kernel
theorem dDec_init_12 : decode uDec_init.2.1 12 = .ok (.putfield 12, 3) := by decide +kernel
theorem dDec_init_15 : decode uDec_init.2.1 15 = .ok (.aload_n 0, 1) := by decide +kernel
theorem dDec_init_16 : decode uDec_init.2.1 16 = .ok (.iconst 0, 1) := by decide +kernel
theorem dDec_init_17 : decode uDec_init.2.1 17 = .ok (.putfield 18, 3) := by decide +kernel
theorem dDec_init_20 : decode uDec_init.2.1 20 = .ok (.return_, 1) := by decide +kernel
theorem dStream_init_0 : decode uStream_init.2.1 0 = .ok (.aload_n 0, 1) := by decide +kernel
theorem dStream_init_1 : decode uStream_init.2.1 1 = .ok (.invokespecial 3, 3) := by decide +kernel
theorem dStream_init_4 : decode uStream_init.2.1 4 = .ok (.aload_n 0, 1) := by decide +kernel
theorem dStream_init_5 : decode uStream_init.2.1 5 = .ok (.iconst 0, 1) := by decide +kernel
theorem dStream_init_6 : decode uStream_init.2.1 6 = .ok (.putfield 9, 3) := by decide +kernel
theorem dStream_init_9 : decode uStream_init.2.1 9 = .ok (.aload_n 0, 1) := by decide +kernel
theorem dStream_init_10 : decode uStream_init.2.1 10 = .ok (.iconst 0, 1) := by decide +kernel
theorem dStream_init_11 : decode uStream_init.2.1 11 = .ok (.putfield 15, 3) := by decide +kernel
theorem dStream_init_14 : decode uStream_init.2.1 14 = .ok (.aload_n 0, 1) := by decide +kernel
theorem dStream_init_15 : decode uStream_init.2.1 15 = .ok (.iconst 0, 1) := by decide +kernel
theorem dStream_init_16 : decode uStream_init.2.1 16 = .ok (.putfield 19, 3) := by decide +kernel
theorem dStream_init_19 : decode uStream_init.2.1 19 = .ok (.aload_n 0, 1) := by decide +kernel
theorem dStream_init_20 : decode uStream_init.2.1 20 = .ok (.iconst 0, 1) := by decide +kernel
theorem dStream_init_21 : decode uStream_init.2.1 21 = .ok (.putfield 22, 3) := by decide +kernel
theorem dStream_init_24 : decode uStream_init.2.1 24 = .ok (.aload_n 0, 1) := by decide +kernel
theorem dStream_init_25 : decode uStream_init.2.1 25 = .ok (.iconst 0, 1) := by decide +kernel
theorem dStream_init_26 : decode uStream_init.2.1 26 = .ok (.putfield 25, 3) := by decide +kernel
theorem dStream_init_29 : decode uStream_init.2.1 29 = .ok (.aload_n 0, 1) := by decide +kernel
theorem dStream_init_30 : decode uStream_init.2.1 30 = .ok (.iconst 0, 1) := by decide +kernel
theorem dStream_init_31 : decode uStream_init.2.1 31 = .ok (.putfield 28, 3) := by decide +kernel
theorem dStream_init_34 : decode uStream_init.2.1 34 = .ok (.aload_n 0, 1) := by decide +kernel
theorem dStream_init_35 : decode uStream_init.2.1 35 = .ok (.aconst_null, 1) := by decide +kernel
theorem dStream_init_36 : decode uStream_init.2.1 36 = .ok (.putfield 31, 3) := by decide +kernel
theorem dStream_init_39 : decode uStream_init.2.1 39 = .ok (.aload_n 0, 1) := by decide +kernel
theorem dStream_init_40 : decode uStream_init.2.1 40 = .ok (.new 35, 3) := by decide +kernel
theorem dStream_init_43 : decode uStream_init.2.1 43 = .ok (.dup, 1) := by decide +kernel
theorem dStream_init_44 : decode uStream_init.2.1 44 = .ok (.bipush 32, 2) := by decide +kernel
theorem dStream_init_46 : decode uStream_init.2.1 46 = .ok (.invokespecial 37, 3) := by decide +kernel
theorem dStream_init_49 : decode uStream_init.2.1 49 = .ok (.putfield 40, 3) := by decide +kernel
theorem dStream_init_52 : decode uStream_init.2.1 52 = .ok (.aload_n 0, 1) := by decide +kernel
theorem dStream_init_53 : decode uStream_init.2.1 53 = .ok (.new 35, 3) := by decide +kernel
theorem dStream_init_56 : decode uStream_init.2.1 56 = .ok (.dup, 1) := by decide +kernel
theorem dStream_init_57 : decode uStream_init.2.1 57 = .ok (.bipush 40, 2) := by decide +kernel
theorem dStream_init_59 : decode uStream_init.2.1 59 = .ok (.invokespecial 37, 3) := by decide +kernel
theorem dStream_init_62 : decode uStream_init.2.1 62 = .ok (.putfield 44, 3) := by decide +kernel
theorem dStream_init_65 : decode uStream_init.2.1 65 = .ok (.aload_n 0, 1) := by decide +kernel
theorem dStream_init_66 : decode uStream_init.2.1 66 = .ok (.iload_n 1, 1) := by decide +kernel
theorem dStream_init_67 : decode uStream_init.2.1 67 = .ok (.putfield 47, 3) := by decide +kernel
theorem dStream_init_70 : decode uStream_init.2.1 70 = .ok (.return_, 1) := by decide +kernel
theorem dEnd_init_0 : decode uEnd_init.2.1 0 = .ok (.aload_n 0, 1) := by decide +kernel
theorem dEnd_init_1 : decode uEnd_init.2.1 1 = .ok (.invokespecial 3, 3) := by decide +kernel
theorem dEnd_init_4 : decode uEnd_init.2.1 4 = .ok (.aload_n 0, 1) := by decide +kernel
theorem dEnd_init_5 : decode uEnd_init.2.1 5 = .ok (.iconst 0, 1) := by decide +kernel
theorem dEnd_init_6 : decode uEnd_init.2.1 6 = .ok (.putfield 9, 3) := by decide +kernel
theorem dEnd_init_9 : decode uEnd_init.2.1 9 = .ok (.aload_n 0, 1) := by decide +kernel
theorem dEnd_init_10 : decode uEnd_init.2.1 10 = .ok (.bipush 40, 2) := by decide +kernel
theorem dEnd_init_12 : decode uEnd_init.2.1 12 = .ok (.putfield 15, 3) := by decide +kernel
theorem dEnd_init_15 : decode uEnd_init.2.1 15 = .ok (.aload_n 0, 1) := by decide +kernel
theorem dEnd_init_16 : decode uEnd_init.2.1 16 = .ok (.bipush 40, 2) := by decide +kernel
theorem dEnd_init_18 : decode uEnd_init.2.1 18 = .ok (.putfield 18, 3) := by decide +kernel
theorem dEnd_init_21 : decode uEnd_init.2.1 21 = .ok (.aload_n 0, 1) := by decide +kernel
theorem dEnd_init_22 : decode uEnd_init.2.1 22 = .ok (.new 21, 3) := by decide +kernel
theorem dEnd_init_25 : decode uEnd_init.2.1 25 = .ok (.dup, 1) := by decide +kernel
theorem dEnd_init_26 : decode uEnd_init.2.1 26 = .ok (.invokespecial 23, 3) := by decide +kernel
theorem dEnd_init_29 : decode uEnd_init.2.1 29 = .ok (.putfield 24, 3) := by decide +kernel
theorem dEnd_init_32 : decode uEnd_init.2.1 32 = .ok (.aload_n 0, 1) := by decide +kernel
theorem dEnd_init_33 : decode uEnd_init.2.1 33 = .ok (.new 28, 3) := by decide +kernel
theorem dEnd_init_36 : decode uEnd_init.2.1 36 = .ok (.dup, 1) := by decide +kernel
theorem dEnd_init_37 : decode uEnd_init.2.1 37 = .ok (.invokespecial 30, 3) := by decide +kernel
theorem dEnd_init_40 : decode uEnd_init.2.1 40 = .ok (.putfield 31, 3) := by decide +kernel
theorem dEnd_init_43 : decode uEnd_init.2.1 43 = .ok (.aload_n 0, 1) := by decide +kernel
theorem dEnd_init_44 : decode uEnd_init.2.1 44 = .ok (.new 35, 3) := by decide +kernel
theorem dEnd_init_47 : decode uEnd_init.2.1 47 = .ok (.dup, 1) := by decide +kernel
theorem dEnd_init_48 : decode uEnd_init.2.1 48 = .ok (.invokespecial 37, 3) := by decide +kernel
theorem dEnd_init_51 : decode uEnd_init.2.1 51 = .ok (.putfield 38, 3) := by decide +kernel
theorem dEnd_init_54 : decode uEnd_init.2.1 54 = .ok (.aload_n 0, 1) := by decide +kernel
theorem dEnd_init_55 : decode uEnd_init.2.1 55 = .ok (.bipush 12, 2) := by decide +kernel
theorem dEnd_init_57 : decode uEnd_init.2.1 57 = .ok (.anewarray 42, 3) := by decide +kernel
theorem dEnd_init_60 : decode uEnd_init.2.1 60 = .ok (.putfield 44, 3) := by decide +kernel
theorem dEnd_init_63 : decode uEnd_init.2.1 63 = .ok (.aload_n 0, 1) := by decide +kernel
theorem dEnd_init_64 : decode uEnd_init.2.1 64 = .ok (.new 48, 3) := by decide +kernel
theorem dEnd_init_67 : decode uEnd_init.2.1 67 = .ok (.dup, 1) := by decide +kernel
theorem dEnd_init_68 : decode uEnd_init.2.1 68 = .ok (.invokespecial 50, 3) := by decide +kernel
theorem dEnd_init_71 : decode uEnd_init.2.1 71 = .ok (.putfield 51, 3) := by decide +kernel
theorem dEnd_init_74 : decode uEnd_init.2.1 74 = .ok (.aload_n 0, 1) := by decide +kernel
theorem dEnd_init_75 : decode uEnd_init.2.1 75 = .ok (.new 48, 3) := by decide +kernel
theorem dEnd_init_78 : decode uEnd_init.2.1 78 = .ok (.dup, 1) := by decide +kernel
theorem dEnd_init_79 : decode uEnd_init.2.1 79 = .ok (.invokespecial 50, 3) := by decide +kernel
theorem dEnd_init_82 : decode uEnd_init.2.1 82 = .ok (.putfield 55, 3) := by decide +kernel
theorem dEnd_init_85 : decode uEnd_init.2.1 85 = .ok (.aload_n 0, 1) := by decide +kernel
theorem dEnd_init_86 : decode uEnd_init.2.1 86 = .ok (.bipush 8, 2) := by decide +kernel
theorem dEnd_init_88 : decode uEnd_init.2.1 88 = .ok (.newarray .int, 2) := by decide +kernel
theorem dEnd_init_90 : decode uEnd_init.2.1 90 = .ok (.putfield 58, 3) := by decide +kernel
theorem dEnd_init_93 : decode uEnd_init.2.1 93 = .ok (.aload_n 0, 1) := by decide +kernel
theorem dEnd_init_94 : decode uEnd_init.2.1 94 = .ok (.bipush 8, 2) := by decide +kernel
theorem dEnd_init_96 : decode uEnd_init.2.1 96 = .ok (.newarray .int, 2) := by decide +kernel
theorem dEnd_init_98 : decode uEnd_init.2.1 98 = .ok (.putfield 62, 3) := by decide +kernel
theorem dEnd_init_101 : decode uEnd_init.2.1 101 = .ok (.aload_n 0, 1) := by decide +kernel
theorem dEnd_init_102 : decode uEnd_init.2.1 102 = .ok (.iconst 0, 1) := by decide +kernel
theorem dEnd_init_103 : decode uEnd_init.2.1 103 = .ok (.putfield 65, 3) := by decide +kernel
theorem dEnd_init_106 : decode uEnd_init.2.1 106 = .ok (.aload_n 0, 1) := by decide +kernel
theorem dEnd_init_107 : decode uEnd_init.2.1 107 = .ok (.iconst 1, 1) := by decide +kernel
theorem dEnd_init_108 : decode uEnd_init.2.1 108 = .ok (.putfield 68, 3) := by decide +kernel
theorem dEnd_init_111 : decode uEnd_init.2.1 111 = .ok (.aload_n 0, 1) := by decide +kernel
theorem dEnd_init_112 : decode uEnd_init.2.1 112 = .ok (.iconst (-1), 1) := by decide +kernel
theorem dEnd_init_113 : decode uEnd_init.2.1 113 = .ok (.putfield 71, 3) := by decide +kernel
theorem dEnd_init_116 : decode uEnd_init.2.1 116 = .ok (.aload_n 0, 1) := by decide +kernel
theorem dEnd_init_117 : decode uEnd_init.2.1 117 = .ok (.iload_n 1, 1) := by decide +kernel
theorem dEnd_init_118 : decode uEnd_init.2.1 118 = .ok (.putfield 74, 3) := by decide +kernel
theorem dEnd_init_121 : decode uEnd_init.2.1 121 = .ok (.aload_n 0, 1) := by decide +kernel
theorem dEnd_init_122 : decode uEnd_init.2.1 122 = .ok (.aload_n 2, 1) := by decide +kernel
theorem dEnd_init_123 : decode uEnd_init.2.1 123 = .ok (.putfield 78, 3) := by decide +kernel
theorem dEnd_init_126 : decode uEnd_init.2.1 126 = .ok (.aload_n 0, 1) := by decide +kernel
theorem dEnd_init_127 : decode uEnd_init.2.1 127 = .ok (.aload_n 3, 1) := by decide +kernel
theorem dEnd_init_128 : decode uEnd_init.2.1 128 = .ok (.putfield 82, 3) := by decide +kernel
theorem dEnd_init_131 : decode uEnd_init.2.1 131 = .ok (.iconst 0, 1) := by decide +kernel
theorem dEnd_init_132 : decode uEnd_init.2.1 132 = .ok (.istore 4, 2) := by decide +kernel
theorem dEnd_init_134 : decode uEnd_init.2.1 134 = .ok (.iload 4, 2) := by decide +kernel
theorem dEnd_init_136 : decode uEnd_init.2.1 136 = .ok (.bipush 12, 2) := by decide +kernel
theorem dEnd_init_138 : decode uEnd_init.2.1 138 = .ok (.if_icmp .ge 29, 3) := by decide +kernel
theorem dEnd_init_141 : decode uEnd_init.2.1 141 = .ok (.aload_n 0, 1) := by decide +kernel
theorem dEnd_init_142 : decode uEnd_init.2.1 142 = .ok (.getfield 44, 3) := by decide +kernel
theorem dEnd_init_145 : decode uEnd_init.2.1 145 = .ok (.iload 4, 2) := by decide +kernel
theorem dEnd_init_147 : decode uEnd_init.2.1 147 = .ok (.new 42, 3) := by decide +kernel
theorem dEnd_init_150 : decode uEnd_init.2.1 150 = .ok (.dup, 1) := by decide +kernel
theorem dEnd_init_151 : decode uEnd_init.2.1 151 = .ok (.iconst 2, 1) := by decide +kernel
theorem dEnd_init_152 : decode uEnd_init.2.1 152 = .ok (.iload 4, 2) := by decide +kernel
theorem dEnd_init_154 : decode uEnd_init.2.1 154 = .ok (.imul, 1) := by decide +kernel
theorem dEnd_init_155 : decode uEnd_init.2.1 155 = .ok (.iconst 1, 1) := by decide +kernel
theorem dEnd_init_156 : decode uEnd_init.2.1 156 = .ok (.iadd, 1) := by decide +kernel
theorem dEnd_init_157 : decode uEnd_init.2.1 157 = .ok (.invokespecial 85, 3) := by decide +kernel
theorem dEnd_init_160 : decode uEnd_init.2.1 160 = .ok (.aastore, 1) := by decide +kernel
theorem dEnd_init_161 : decode uEnd_init.2.1 161 = .ok (.iinc 4 1, 3) := by decide +kernel
theorem dEnd_init_164 : decode uEnd_init.2.1 164 = .ok (.goto (-30), 3) := by decide +kernel
theorem dEnd_init_167 : decode uEnd_init.2.1 167 = .ok (.return_, 1) := by decide +kernel
theorem oi_Enc_3 : Cond.methodLink "InterleavedLink$Encoder" 3 Lib.objectInit ∈ gW := gW_in 148 (by decide +kernel) rfl
theorem ns_Enc_9 : nS "InterleavedLink$Encoder" 9 5 6 := ⟨"InterleavedLink$Table", T_Table, cf_Table, (gW_in 149 (by decide +kernel) rfl), (gW_in 150 (by decide +kernel) rfl), (gW_in 69 (by decide +kernel) rfl)⟩
theorem cs_Enc_11 : cI "InterleavedLink$Encoder" 11 uTable_init 0 := ⟨⟨Or.inr ⟨"InterleavedLink", (gN_in 151 (by decide +kernel) rfl)⟩, (gW_in 69 (by decide +kernel) rfl), (gW_in 153 (by decide +kernel) rfl), ⟨by decide, by decide⟩, by decide +kernel⟩, (gW_in 152 (by decide +kernel) rfl), rfl, rfl⟩
theorem cfw_Enc : ∀ k, k < 4 → u_lay "InterleavedLink$Encoder" T_Enc k ∈ gW
  | 0, _ => gW_in 184 (by decide +kernel) rfl
  | 1, _ => gW_in 186 (by decide +kernel) rfl
  | 2, _ => gW_in 188 (by decide +kernel) rfl
  | 3, _ => gW_in 190 (by decide +kernel) rfl
  | (_ + 4), h => absurd h (by omega)
theorem cf_Enc : cF 4 "InterleavedLink$Encoder" T_Enc 4 := ⟨by decide, rfl, fun w hw => by
  obtain ⟨k, hk, rfl⟩ := List.mem_map.mp hw
  exact cfw_Enc k (List.mem_range.mp hk), by decide +kernel, ty_Enc, by decide +kernel⟩
theorem ps_Enc_12 : pS "InterleavedLink$Encoder" "<init>" 12 4 0 (.object "InterleavedLink$Table") := ⟨"InterleavedLink$Encoder", T_Enc, 4, cf_Enc, by decide, by decide +kernel, Or.inr ⟨rfl, rfl, rfl, (gW_in 179 (by decide +kernel) rfl)⟩⟩
theorem ps_Enc_18 {nm : String} : pS "InterleavedLink$Encoder" nm 18 4 1 .boolean := ⟨"InterleavedLink$Encoder", T_Enc, 4, cf_Enc, by decide, by decide +kernel, Or.inl ⟨rfl, Or.inl (gW_in 181 (by decide +kernel) rfl)⟩⟩
theorem ps_Enc_22 {nm : String} : pS "InterleavedLink$Encoder" nm 22 4 2 .int := ⟨"InterleavedLink$Encoder", T_Enc, 4, cf_Enc, by decide, by decide +kernel, Or.inl ⟨rfl, Or.inl (gW_in 182 (by decide +kernel) rfl)⟩⟩
theorem ps_Enc_26 {nm : String} : pS "InterleavedLink$Encoder" nm 26 4 3 .int := ⟨"InterleavedLink$Encoder", T_Enc, 4, cf_Enc, by decide, by decide +kernel, Or.inl ⟨rfl, Or.inl (gW_in 183 (by decide +kernel) rfl)⟩⟩
theorem oi_Dec_3 : Cond.methodLink "InterleavedLink$Decoder" 3 Lib.objectInit ∈ gW := gW_in 198 (by decide +kernel) rfl
theorem ns_Dec_9 : nS "InterleavedLink$Decoder" 9 5 6 := ⟨"InterleavedLink$Table", T_Table, cf_Table, (gW_in 199 (by decide +kernel) rfl), (gW_in 150 (by decide +kernel) rfl), (gW_in 69 (by decide +kernel) rfl)⟩
theorem cs_Dec_11 : cI "InterleavedLink$Decoder" 11 uTable_init 0 := ⟨⟨Or.inr ⟨"InterleavedLink", (gN_in 200 (by decide +kernel) rfl)⟩, (gW_in 69 (by decide +kernel) rfl), (gW_in 153 (by decide +kernel) rfl), ⟨by decide, by decide⟩, by decide +kernel⟩, (gW_in 152 (by decide +kernel) rfl), rfl, rfl⟩
theorem cfw_Dec : ∀ k, k < 2 → u_lay "InterleavedLink$Decoder" T_Dec k ∈ gW
  | 0, _ => gW_in 204 (by decide +kernel) rfl
  | 1, _ => gW_in 206 (by decide +kernel) rfl
  | (_ + 2), h => absurd h (by omega)
theorem cf_Dec : cF 6 "InterleavedLink$Decoder" T_Dec 2 := ⟨by decide, rfl, fun w hw => by
  obtain ⟨k, hk, rfl⟩ := List.mem_map.mp hw
  exact cfw_Dec k (List.mem_range.mp hk), by decide +kernel, ty_Dec, by decide +kernel⟩
theorem ps_Dec_12 : pS "InterleavedLink$Decoder" "<init>" 12 6 0 (.object "InterleavedLink$Table") := ⟨"InterleavedLink$Decoder", T_Dec, 2, cf_Dec, by decide, by decide +kernel, Or.inr ⟨rfl, rfl, rfl, (gW_in 201 (by decide +kernel) rfl)⟩⟩
theorem ps_Dec_18 {nm : String} : pS "InterleavedLink$Decoder" nm 18 6 1 .boolean := ⟨"InterleavedLink$Decoder", T_Dec, 2, cf_Dec, by decide, by decide +kernel, Or.inl ⟨rfl, Or.inl (gW_in 203 (by decide +kernel) rfl)⟩⟩
theorem oi_Stream_3 : Cond.methodLink "InterleavedLink$Stream" 3 Lib.objectInit ∈ gW := gW_in 234 (by decide +kernel) rfl
theorem cfw_Stream : ∀ k, k < 10 → u_lay "InterleavedLink$Stream" T_Stream k ∈ gW
  | 0, _ => gW_in 279 (by decide +kernel) rfl
  | 1, _ => gW_in 281 (by decide +kernel) rfl
  | 2, _ => gW_in 283 (by decide +kernel) rfl
  | 3, _ => gW_in 285 (by decide +kernel) rfl
  | 4, _ => gW_in 287 (by decide +kernel) rfl
  | 5, _ => gW_in 289 (by decide +kernel) rfl
  | 6, _ => gW_in 291 (by decide +kernel) rfl
  | 7, _ => gW_in 293 (by decide +kernel) rfl
  | 8, _ => gW_in 295 (by decide +kernel) rfl
  | 9, _ => gW_in 297 (by decide +kernel) rfl
  | (_ + 10), h => absurd h (by omega)
theorem cf_Stream : cF 8 "InterleavedLink$Stream" T_Stream 10 := ⟨by decide, rfl, fun w hw => by
  obtain ⟨k, hk, rfl⟩ := List.mem_map.mp hw
  exact cfw_Stream k (List.mem_range.mp hk), by decide +kernel, ty_Stream, by decide +kernel⟩
theorem ps_Stream_9 {nm : String} : pS "InterleavedLink$Stream" nm 9 8 1 .int := ⟨"InterleavedLink$Stream", T_Stream, 10, cf_Stream, by decide, by decide +kernel, Or.inl ⟨rfl, Or.inl (gW_in 253 (by decide +kernel) rfl)⟩⟩
theorem ps_Stream_15 {nm : String} : pS "InterleavedLink$Stream" nm 15 8 2 .boolean := ⟨"InterleavedLink$Stream", T_Stream, 10, cf_Stream, by decide, by decide +kernel, Or.inl ⟨rfl, Or.inl (gW_in 256 (by decide +kernel) rfl)⟩⟩
theorem ps_Stream_19 {nm : String} : pS "InterleavedLink$Stream" nm 19 8 3 .int := ⟨"InterleavedLink$Stream", T_Stream, 10, cf_Stream, by decide, by decide +kernel, Or.inl ⟨rfl, Or.inl (gW_in 258 (by decide +kernel) rfl)⟩⟩
theorem ps_Stream_22 {nm : String} : pS "InterleavedLink$Stream" nm 22 8 4 .int := ⟨"InterleavedLink$Stream", T_Stream, 10, cf_Stream, by decide, by decide +kernel, Or.inl ⟨rfl, Or.inl (gW_in 261 (by decide +kernel) rfl)⟩⟩
theorem ps_Stream_25 {nm : String} : pS "InterleavedLink$Stream" nm 25 8 5 .boolean := ⟨"InterleavedLink$Stream", T_Stream, 10, cf_Stream, by decide, by decide +kernel, Or.inl ⟨rfl, Or.inl (gW_in 264 (by decide +kernel) rfl)⟩⟩
theorem ps_Stream_28 {nm : String} : pS "InterleavedLink$Stream" nm 28 8 6 .boolean := ⟨"InterleavedLink$Stream", T_Stream, 10, cf_Stream, by decide, by decide +kernel, Or.inl ⟨rfl, Or.inl (gW_in 267 (by decide +kernel) rfl)⟩⟩
theorem ps_Stream_31 {nm : String} : pS "InterleavedLink$Stream" nm 31 8 7 (.object "InterleavedLink$FieldList") := ⟨"InterleavedLink$Stream", T_Stream, 10, cf_Stream, by decide, by decide +kernel, Or.inl ⟨rfl, Or.inl (gW_in 270 (by decide +kernel) rfl)⟩⟩
theorem ns_Stream_35 : nS "InterleavedLink$Stream" 35 9 2 := ⟨"InterleavedLink$ByteQueue", T_BQ, cf_BQ, (gW_in 235 (by decide +kernel) rfl), (gW_in 236 (by decide +kernel) rfl), (gW_in 73 (by decide +kernel) rfl)⟩
theorem cs_Stream_37 : cI "InterleavedLink$Stream" 37 uBQ_init 1 := ⟨⟨Or.inl (gW_in 237 (by decide +kernel) rfl), (gW_in 73 (by decide +kernel) rfl), (gW_in 239 (by decide +kernel) rfl), ⟨by decide, by decide⟩, by decide +kernel⟩, (gW_in 238 (by decide +kernel) rfl), rfl, rfl⟩
theorem ps_Stream_40 : pS "InterleavedLink$Stream" "<init>" 40 8 8 (.object "InterleavedLink$ByteQueue") := ⟨"InterleavedLink$Stream", T_Stream, 10, cf_Stream, by decide, by decide +kernel, Or.inr ⟨rfl, rfl, rfl, (gW_in 273 (by decide +kernel) rfl)⟩⟩
theorem ps_Stream_44 : pS "InterleavedLink$Stream" "<init>" 44 8 9 (.object "InterleavedLink$ByteQueue") := ⟨"InterleavedLink$Stream", T_Stream, 10, cf_Stream, by decide, by decide +kernel, Or.inr ⟨rfl, rfl, rfl, (gW_in 276 (by decide +kernel) rfl)⟩⟩
theorem ps_Stream_47 : pS "InterleavedLink$Stream" "<init>" 47 8 0 .int := ⟨"InterleavedLink$Stream", T_Stream, 10, cf_Stream, by decide, by decide +kernel, Or.inr ⟨rfl, rfl, rfl, (gW_in 251 (by decide +kernel) rfl)⟩⟩
theorem cfw_End : ∀ k, k < 17 → u_lay "InterleavedLink$End" T_End k ∈ gW
  | 0, _ => gW_in 326 (by decide +kernel) rfl
  | 1, _ => gW_in 328 (by decide +kernel) rfl
  | 2, _ => gW_in 330 (by decide +kernel) rfl
  | 3, _ => gW_in 332 (by decide +kernel) rfl
  | 4, _ => gW_in 334 (by decide +kernel) rfl
  | 5, _ => gW_in 336 (by decide +kernel) rfl
  | 6, _ => gW_in 338 (by decide +kernel) rfl
  | 7, _ => gW_in 340 (by decide +kernel) rfl
  | 8, _ => gW_in 342 (by decide +kernel) rfl
  | 9, _ => gW_in 344 (by decide +kernel) rfl
  | 10, _ => gW_in 346 (by decide +kernel) rfl
  | 11, _ => gW_in 348 (by decide +kernel) rfl
  | 12, _ => gW_in 350 (by decide +kernel) rfl
  | 13, _ => gW_in 352 (by decide +kernel) rfl
  | 14, _ => gW_in 354 (by decide +kernel) rfl
  | 15, _ => gW_in 356 (by decide +kernel) rfl
  | 16, _ => gW_in 358 (by decide +kernel) rfl
  | (_ + 17), h => absurd h (by omega)
theorem cf_End : cF 2 "InterleavedLink$End" T_End 17 := ⟨by decide, rfl, fun w hw => by
  obtain ⟨k, hk, rfl⟩ := List.mem_map.mp hw
  exact cfw_End k (List.mem_range.mp hk), by decide +kernel, ty_End, by decide +kernel⟩
theorem fs_End_44 : fS "InterleavedLink$End" 44 2 9 := ⟨"InterleavedLink$End", T_End, 17, cf_End, by decide, Or.inl (gW_in 317 (by decide +kernel) rfl)⟩
theorem ns_End_42 : nS "InterleavedLink$End" 42 8 10 := ⟨"InterleavedLink$Stream", T_Stream, cf_Stream, (gW_in 209 (by decide +kernel) rfl), (gW_in 230 (by decide +kernel) rfl), (gW_in 72 (by decide +kernel) rfl)⟩
theorem cs_End_85 : cI "InterleavedLink$End" 85 uStream_init 1 := ⟨⟨Or.inl (gW_in 231 (by decide +kernel) rfl), (gW_in 72 (by decide +kernel) rfl), (gW_in 233 (by decide +kernel) rfl), ⟨by decide, by decide⟩, by decide +kernel⟩, (gW_in 232 (by decide +kernel) rfl), rfl, rfl⟩
set_option maxRecDepth 100000 in
set_option maxHeartbeats 4000000 in
theorem ct_Enc_init {X : mX} {l : Launch} {M : mM} {t : Nat} (hp : (mT M t).1 = 4) : Ct X l uEnc_init (rn 2 32 4 21) [.ref t] M (fun r M' => r = none ∧ M' = mkEnc M t) := by
  refine Ct.of (by decide) (Nat.le_of_ble_eq_true rfl) ?_
  show G X l uEnc_init (rn 2 32 4 21) 4 21 M 0 [some (.ref t)] [] _
  refine G.wf fun hw => ?_
  have hlt := (hw.lt (a := t) (by rw [hp]; decide)).2
  refine g_aload_n 0 dEnc_init_0 rfl ?_
  refine g_objInit 1 dEnc_init_1 oi_Enc_3 oi_m oi_c ⟨(Nat.le_of_ble_eq_true rfl), (Nat.le_of_ble_eq_true rfl)⟩ ?_
  refine g_aload_n 4 dEnc_init_4 rfl ?_
  refine g_new 5 5 6 dEnc_init_5 ns_Enc_9 (Nat.le_of_ble_eq_true rfl) (Nat.le_of_ble_eq_true rfl) ?_
  refine g_dup 8 dEnc_init_8 rfl ?_
  refine g_callI 9 [] dEnc_init_9 cs_Enc_11 rfl rfl ⟨(Nat.le_of_ble_eq_true rfl), (Nat.le_of_ble_eq_true rfl)⟩ (Nat.le_of_ble_eq_true rfl) (ct_Tab_init nT) (Nat.le_of_ble_eq_true rfl) (Nat.le_of_ble_eq_true rfl) ?_
  rintro _ _ ⟨rfl, rfl⟩
  refine g_putr 12 4 0 dEnc_init_12 ps_Enc_12 rfl rfl (oT (Nat.lt_add_right 3 hlt) (oT (Nat.lt_add_right 2 hlt) (oT (Nat.lt_add_right 1 hlt) (oT (Nat.lt_add_right 0 hlt) hp)))) ?_
  refine g_aload_n 15 dEnc_init_15 rfl ?_
  refine g_iconst 16 0 dEnc_init_16 rfl ?_
  refine g_putz 17 4 1 dEnc_init_17 ps_Enc_18 rfl (by decide) (oT (Nat.lt_add_right 3 hlt) (oT (Nat.lt_add_right 2 hlt) (oT (Nat.lt_add_right 1 hlt) (oT (Nat.lt_add_right 0 hlt) hp)))) ?_
  refine g_aload_n 20 dEnc_init_20 rfl ?_
  refine g_iconst 21 0 dEnc_init_21 rfl ?_
  refine g_puti 22 4 2 dEnc_init_22 ps_Enc_22 rfl (oT (Nat.lt_add_right 3 hlt) (oT (Nat.lt_add_right 2 hlt) (oT (Nat.lt_add_right 1 hlt) (oT (Nat.lt_add_right 0 hlt) hp)))) ?_
  refine g_aload_n 25 dEnc_init_25 rfl ?_
  refine g_iconst 26 0 dEnc_init_26 rfl ?_
  refine g_puti 27 4 3 dEnc_init_27 ps_Enc_26 rfl (oT (Nat.lt_add_right 3 hlt) (oT (Nat.lt_add_right 2 hlt) (oT (Nat.lt_add_right 1 hlt) (oT (Nat.lt_add_right 0 hlt) hp)))) ?_
  exact g_vret 30 dEnc_init_30 rfl ⟨rfl, rfl⟩

set_option maxRecDepth 100000 in
set_option maxHeartbeats 4000000 in
theorem ct_Dec_init {X : mX} {l : Launch} {M : mM} {t : Nat} (hp : (mT M t).1 = 6) : Ct X l uDec_init (rn 2 32 4 21) [.ref t] M (fun r M' => r = none ∧ M' = mkDec M t) := by
  refine Ct.of (by decide) (Nat.le_of_ble_eq_true rfl) ?_
  show G X l uDec_init (rn 2 32 4 21) 4 21 M 0 [some (.ref t)] [] _
  refine G.wf fun hw => ?_
  have hlt := (hw.lt (a := t) (by rw [hp]; decide)).2
  refine g_aload_n 0 dDec_init_0 rfl ?_
  refine g_objInit 1 dDec_init_1 oi_Dec_3 oi_m oi_c ⟨(Nat.le_of_ble_eq_true rfl), (Nat.le_of_ble_eq_true rfl)⟩ ?_
  refine g_aload_n 4 dDec_init_4 rfl ?_
  refine g_new 5 5 6 dDec_init_5 ns_Dec_9 (Nat.le_of_ble_eq_true rfl) (Nat.le_of_ble_eq_true rfl) ?_
  refine g_dup 8 dDec_init_8 rfl ?_
  refine g_callI 9 [] dDec_init_9 cs_Dec_11 rfl rfl ⟨(Nat.le_of_ble_eq_true rfl), (Nat.le_of_ble_eq_true rfl)⟩ (Nat.le_of_ble_eq_true rfl) (ct_Tab_init nT) (Nat.le_of_ble_eq_true rfl) (Nat.le_of_ble_eq_true rfl) ?_
  rintro _ _ ⟨rfl, rfl⟩
  refine g_putr 12 6 0 dDec_init_12 ps_Dec_12 rfl rfl (oT (Nat.lt_add_right 3 hlt) (oT (Nat.lt_add_right 2 hlt) (oT (Nat.lt_add_right 1 hlt) (oT (Nat.lt_add_right 0 hlt) hp)))) ?_
  refine g_aload_n 15 dDec_init_15 rfl ?_
  refine g_iconst 16 0 dDec_init_16 rfl ?_
  refine g_putz 17 6 1 dDec_init_17 ps_Dec_18 rfl (by decide) (oT (Nat.lt_add_right 3 hlt) (oT (Nat.lt_add_right 2 hlt) (oT (Nat.lt_add_right 1 hlt) (oT (Nat.lt_add_right 0 hlt) hp)))) ?_
  exact g_vret 20 dDec_init_20 rfl ⟨rfl, rfl⟩

set_option maxRecDepth 100000 in
set_option maxHeartbeats 4000000 in
theorem ct_Str_init {X : mX} {l : Launch} {M : mM} {t : Nat} {x : Int32} (hp : (mT M t).1 = 8) : Ct X l uStream_init (rn 2 33 4 84) [.ref t, .int x] M (fun r M' => r = none ∧ M' = mkStr M t x) := by
  refine Ct.of (by decide) (Nat.le_of_ble_eq_true rfl) ?_
  show G X l uStream_init (rn 2 33 4 84) 4 84 M 0 [some (.ref t), some (.int x)] [] _
  refine G.wf fun hw => ?_
  have hlt := (hw.lt (a := t) (by rw [hp]; decide)).2
  refine g_aload_n 0 dStream_init_0 rfl ?_
  refine g_objInit 1 dStream_init_1 oi_Stream_3 oi_m oi_c ⟨(Nat.le_of_ble_eq_true rfl), (Nat.le_of_ble_eq_true rfl)⟩ ?_
  refine g_aload_n 4 dStream_init_4 rfl ?_
  refine g_iconst 5 0 dStream_init_5 rfl ?_
  refine g_puti 6 8 1 dStream_init_6 ps_Stream_9 rfl hp ?_
  refine g_aload_n 9 dStream_init_9 rfl ?_
  refine g_iconst 10 0 dStream_init_10 rfl ?_
  refine g_putz 11 8 2 dStream_init_11 ps_Stream_15 rfl (by decide) hp ?_
  refine g_aload_n 14 dStream_init_14 rfl ?_
  refine g_iconst 15 0 dStream_init_15 rfl ?_
  refine g_puti 16 8 3 dStream_init_16 ps_Stream_19 rfl hp ?_
  refine g_aload_n 19 dStream_init_19 rfl ?_
  refine g_iconst 20 0 dStream_init_20 rfl ?_
  refine g_puti 21 8 4 dStream_init_21 ps_Stream_22 rfl hp ?_
  refine g_aload_n 24 dStream_init_24 rfl ?_
  refine g_iconst 25 0 dStream_init_25 rfl ?_
  refine g_putz 26 8 5 dStream_init_26 ps_Stream_25 rfl (by decide) hp ?_
  refine g_aload_n 29 dStream_init_29 rfl ?_
  refine g_iconst 30 0 dStream_init_30 rfl ?_
  refine g_putz 31 8 6 dStream_init_31 ps_Stream_28 rfl (by decide) hp ?_
  refine g_aload_n 34 dStream_init_34 rfl ?_
  refine g_null 35 dStream_init_35 ?_
  refine g_putN 36 8 7 dStream_init_36 ps_Stream_31 rfl rfl hp ?_
  refine g_aload_n 39 dStream_init_39 rfl ?_
  refine g_new 40 9 2 dStream_init_40 ns_Stream_35 (Nat.le_of_ble_eq_true rfl) (Nat.le_of_ble_eq_true rfl) ?_
  refine g_dup 43 dStream_init_43 rfl ?_
  refine g_bipush 44 32 dStream_init_44 rfl ?_
  refine g_callI 46 [_] dStream_init_46 cs_Stream_37 rfl rfl ⟨(Nat.le_of_ble_eq_true rfl), (Nat.le_of_ble_eq_true rfl)⟩ (Nat.le_of_ble_eq_true rfl) (ct_BQ_init (n := 32) nT (by decide)) (Nat.le_of_ble_eq_true rfl) (Nat.le_of_ble_eq_true rfl) ?_
  rintro _ _ ⟨rfl, rfl⟩
  refine g_putr 49 8 8 dStream_init_49 ps_Stream_40 rfl rfl (oT (Nat.lt_add_right 1 hlt) (oT (Nat.lt_add_right 0 hlt) hp)) ?_
  refine g_aload_n 52 dStream_init_52 rfl ?_
  refine g_new 53 9 2 dStream_init_53 ns_Stream_35 (Nat.le_of_ble_eq_true rfl) (Nat.le_of_ble_eq_true rfl) ?_
  refine g_dup 56 dStream_init_56 rfl ?_
  refine g_bipush 57 40 dStream_init_57 rfl ?_
  refine g_callI 59 [_] dStream_init_59 cs_Stream_37 rfl rfl ⟨(Nat.le_of_ble_eq_true rfl), (Nat.le_of_ble_eq_true rfl)⟩ (Nat.le_of_ble_eq_true rfl) (ct_BQ_init (n := 40) nT (by decide)) (Nat.le_of_ble_eq_true rfl) (Nat.le_of_ble_eq_true rfl) ?_
  rintro _ _ ⟨rfl, rfl⟩
  refine g_putr 62 8 9 dStream_init_62 ps_Stream_44 rfl rfl (oT (Nat.lt_add_right 3 hlt) (oT (Nat.lt_add_right 2 hlt) (oT (Nat.lt_add_right 1 hlt) (oT (Nat.lt_add_right 0 hlt) hp)))) ?_
  refine g_aload_n 65 dStream_init_65 rfl ?_
  refine g_iload_n 66 dStream_init_66 rfl ?_
  refine g_puti 67 8 0 dStream_init_67 ps_Stream_47 rfl (oT (Nat.lt_add_right 3 hlt) (oT (Nat.lt_add_right 2 hlt) (oT (Nat.lt_add_right 1 hlt) (oT (Nat.lt_add_right 0 hlt) hp)))) ?_
  exact g_vret 70 dStream_init_70 rfl ⟨rfl, rfl⟩

/-- M' has all of M's cells; of those only D's have other contents -/
def Ex (M M' : mM) (D : Nat → Prop) : Prop := mN M ≤ mN M' ∧ (∀ a, a < mN M → mT M' a = mT M a) ∧ ∀ a, a < mN M → ¬ D a → (∀ k, mI M' a k = mI M a k) ∧ (∀ k, mL M' a k = mL M a k) ∧ ∀ k, mR M' a k = mR M a k
theorem Ex.rf {M : mM} {D : Nat → Prop} : Ex M M D := ⟨Nat.le_refl _, fun _ _ => rfl, fun _ _ _ => ⟨fun _ => rfl, fun _ => rfl, fun _ => rfl⟩⟩
theorem Ex.new {M M' : mM} {D : Nat → Prop} {t n : Nat} (h : Ex M M' D) : Ex M (newM M' t n) D :=
  ⟨Nat.le_succ_of_le h.1, fun a ha => (mT_new_ne (Nat.ne_of_lt (Nat.lt_of_lt_of_le ha h.1))).trans (h.2.1 a ha), fun a ha hd => ⟨fun k => (mI_new_ne (Nat.ne_of_lt (Nat.lt_of_lt_of_le ha h.1))).trans ((h.2.2 a ha hd).1 k), fun k => (mL_new_ne (Nat.ne_of_lt (Nat.lt_of_lt_of_le ha h.1))).trans ((h.2.2 a ha hd).2.1 k), fun k => (mR_new_ne (Nat.ne_of_lt (Nat.lt_of_lt_of_le ha h.1))).trans ((h.2.2 a ha hd).2.2 k)⟩⟩
theorem Ex.setI {M M' : mM} {D : Nat → Prop} {b j : Nat} {v : Int32} (h : Ex M M' D) (hb : D b ∨ mN M ≤ b) : Ex M (setI M' b j v) D :=
  ⟨h.1, h.2.1, fun a ha hd => ⟨fun k => (up2_a (fun e => by subst e; rcases hb with q | q; exact hd q; omega)).trans ((h.2.2 a ha hd).1 k), (h.2.2 a ha hd).2.1, (h.2.2 a ha hd).2.2⟩⟩
theorem Ex.setL {M M' : mM} {D : Nat → Prop} {b j : Nat} {v : Int64} (h : Ex M M' D) (hb : D b ∨ mN M ≤ b) : Ex M (setL M' b j v) D :=
  ⟨h.1, h.2.1, fun a ha hd => ⟨(h.2.2 a ha hd).1, fun k => (up2_a (fun e => by subst e; rcases hb with q | q; exact hd q; omega)).trans ((h.2.2 a ha hd).2.1 k), (h.2.2 a ha hd).2.2⟩⟩
theorem Ex.setR {M M' : mM} {D : Nat → Prop} {b j : Nat} {v : Option Nat} (h : Ex M M' D) (hb : D b ∨ mN M ≤ b) : Ex M (setR M' b j v) D :=
  ⟨h.1, h.2.1, fun a ha hd => ⟨(h.2.2 a ha hd).1, (h.2.2 a ha hd).2.1, fun k => (up2_a (fun e => by subst e; rcases hb with q | q; exact hd q; omega)).trans ((h.2.2 a ha hd).2.2 k)⟩⟩
theorem Ex.tr {M M' M2 : mM} {D : Nat → Prop} (h : Ex M M' D) (h2 : Ex M' M2 D) : Ex M M2 D :=
  ⟨Nat.le_trans h.1 h2.1, fun a ha => (h2.2.1 a (Nat.lt_of_lt_of_le ha h.1)).trans (h.2.1 a ha), fun a ha hd => ⟨fun k => ((h2.2.2 a (Nat.lt_of_lt_of_le ha h.1) hd).1 k).trans ((h.2.2 a ha hd).1 k), fun k => ((h2.2.2 a (Nat.lt_of_lt_of_le ha h.1) hd).2.1 k).trans ((h.2.2 a ha hd).2.1 k), fun k => ((h2.2.2 a (Nat.lt_of_lt_of_le ha h.1) hd).2.2 k).trans ((h.2.2 a ha hd).2.2 k)⟩⟩
theorem Ex.wide {M M' : mM} {D E : Nat → Prop} (h : Ex M M' D) (hde : ∀ a, a < mN M → D a → E a) : Ex M M' E :=
  ⟨h.1, h.2.1, fun a ha hd => h.2.2 a ha fun q => hd (hde a ha q)⟩
theorem ex_BQ {M : mM} {t n : Nat} : Ex M (mkBQ M t n) (fun a => a = t) := by
  unfold mkBQ
  exact Ex.setR (Ex.new (Ex.setI Ex.rf (Or.inl rfl))) (Or.inl rfl)
theorem ex_Str {M : mM} {t : Nat} {x : Int32} : Ex M (mkStr M t x) (fun a => a = t) := by
  unfold mkStr mkBQ
  exact Ex.setI (Ex.setR (Ex.setR (Ex.new (Ex.setI (Ex.new (Ex.setR (Ex.setR (Ex.new (Ex.setI (Ex.new (Ex.setR (Ex.setI (Ex.setI (Ex.setI (Ex.setI (Ex.setI (Ex.setI Ex.rf (Or.inl rfl)) (Or.inl rfl)) (Or.inl rfl)) (Or.inl rfl)) (Or.inl rfl)) (Or.inl rfl)) (Or.inl rfl))) (Or.inr (Nat.le_refl _)))) (Or.inr (Nat.le_refl _))) (Or.inl rfl))) (Or.inr (Nat.le_add_right _ 2)))) (Or.inr (Nat.le_add_right _ 2))) (Or.inl rfl)) (Or.inl rfl)
/-- the streams of an end, made in a row into the array arr -/
def mkStrs (M : mM) (arr : Nat) : Nat → mM
  | 0 => M
  | n + 1 => setR (mkStr (newM (mkStrs M arr n) 8 10) (mN (mkStrs M arr n)) (2 * nI n + 1)) arr n (some (mN (mkStrs M arr n)))
theorem mN_strs (M : mM) (arr : Nat) : ∀ n, mN (mkStrs M arr n) = mN M + 5 * n
  | 0 => rfl
  | n + 1 => by
    show mN (mkStrs M arr n) + 1 + 1 + 1 + 1 + 1 = _
    rw [mN_strs M arr n]
    omega
theorem ex_Strs0 (M : mM) (arr : Nat) : ∀ n, Ex M (mkStrs M arr n) (fun a => a = arr ∨ mN M ≤ a)
  | 0 => Ex.rf
  | n + 1 => by
    have ih := ex_Strs0 M arr n
    exact Ex.setR (Ex.tr (Ex.new ih) (ex_Str.wide fun a ha e => Or.inr (by rw [e]; exact ih.1))) (Or.inl (Or.inl rfl))
theorem ex_Strs (M : mM) (arr n : Nat) : Ex M (mkStrs M arr n) (fun a => a = arr) := (ex_Strs0 M arr n).wide fun a ha e => e.elim id fun q => absurd q (by omega)

def mkEnd1 (M : mM) (t : Nat) : mM := setI (setI (setI M t 3 0) t 4 40) t 5 40
def mkEnd2 (M : mM) (t : Nat) : mM := setR (mkFL (newM (mkEnd1 M t) 3 4) (mN M)) t 6 (some (mN M))
def mkEnd3 (M : mM) (t : Nat) : mM := setR (mkEnc (newM (mkEnd2 M t) 4 4) (mN M + 4)) t 7 (some (mN M + 4))
def mkEnd4 (M : mM) (t : Nat) : mM := setR (mkDec (newM (mkEnd3 M t) 6 2) (mN M + 9)) t 8 (some (mN M + 9))
def mkEnd5 (M : mM) (t : Nat) : mM := setR (newM (mkEnd4 M t) 105 12) t 9 (some (mN M + 14))
def mkEnd6 (M : mM) (t : Nat) : mM := setR (mkSett (newM (mkEnd5 M t) 7 3) (mN M + 15)) t 10 (some (mN M + 15))
def mkEnd7 (M : mM) (t : Nat) : mM := setR (mkSett (newM (mkEnd6 M t) 7 3) (mN M + 16)) t 11 (some (mN M + 16))
def mkEnd8 (M : mM) (t : Nat) : mM := setR (newM (setR (newM (mkEnd7 M t) 100 8) t 12 (some (mN M + 17))) 100 8) t 13 (some (mN M + 18))
def mkEnd9 (M : mM) (t : Nat) (q : Int32) (i o : Nat) : mM := setR (setR (setI (setI (setI (setI (mkEnd8 M t) t 14 0) t 15 1) t 16 (-1)) t 0 q) t 1 (some i)) t 2 (some o)
def mkEnd (M : mM) (t : Nat) (q : Int32) (i o : Nat) : mM := mkStrs (mkEnd9 M t q i o) (mN M + 14) 12
set_option maxRecDepth 100000 in
set_option maxHeartbeats 4000000 in
theorem g_End_loop {X : mX} {l : Launch} {M : mM} {t arr i o : Nat} {q : Int32} {Q : Option Value → mM → Prop} (hp : (mT M t).1 = 2) (hr : mR M t 9 = some arr) (hne : t ≠ arr) (ha : mT M arr = (105, 12)) (hw : Wf M) (hq : Q none (mkStrs M arr 12)) : ∀ (j n : Nat), n + j = 12 → G X l uEnd_init (rn 3 54 79 1232) (5 * j) (94 * j) (mkStrs M arr n) 134 [some (.ref t), some (.int q), some (.ref i), some (.ref o), some (.int (nI n))] [] Q
  | 0, n, hn => by
    have hn : n = 12 := by omega
    subst hn
    refine g_iload 134 dEnd_init_134 rfl ?_
    refine g_bipush 136 12 dEnd_init_136 rfl ?_
    refine g_icmp_ge 138 167 dEnd_init_138 rfl (fun h138 => ?_) (fun h138 => ?_)
    · exact g_vret 167 dEnd_init_167 rfl hq
    · exact absurd (show (12 : Int32) ≤ nI 12 by decide) h138
  | j + 1, n, hn => by
    have hlt := (hw.lt (a := t) (by rw [hp]; decide)).2
    have hla := (hw.lt (a := arr) (by rw [ha]; decide)).2
    have hE := ex_Strs M arr n
    have hlt2 : t < mN (mkStrs M arr n) := Nat.lt_of_lt_of_le hlt hE.1
    have hla2 : arr < mN (mkStrs M arr n) := Nat.lt_of_lt_of_le hla hE.1
    have hp2 : (mT (mkStrs M arr n) t).1 = 2 := by rw [hE.2.1 t hlt]; exact hp
    have hr2 : mR (mkStrs M arr n) t 9 = some arr := by rw [(hE.2.2 t hlt hne).2.2]; exact hr
    have ha2 : mT (mkStrs M arr n) arr = (105, 12) := by rw [hE.2.1 arr hla]; exact ha
    have ih := g_End_loop (X := X) (l := l) (q := q) (i := i) (o := o) hp hr hne ha hw hq j (n + 1) (by omega)
    refine g_iload 134 dEnd_init_134 rfl ?_
    refine g_bipush 136 12 dEnd_init_136 rfl ?_
    refine g_icmp_ge 138 167 dEnd_init_138 rfl (fun h138 => ?_) (fun h138 => ?_)
    · exact absurd h138 (nI_ge (by omega : n < 12) (by decide))
    · refine g_aload_n 141 dEnd_init_141 rfl ?_
      refine g_getr 142 2 9 dEnd_init_142 fs_End_44 rfl hp2 hr2 ?_
      refine g_iload 145 dEnd_init_145 rfl ?_
      refine g_new 147 8 10 dEnd_init_147 ns_End_42 (Nat.le_of_ble_eq_true rfl) (Nat.le_of_ble_eq_true rfl) ?_
      refine g_dup 150 dEnd_init_150 rfl ?_
      refine g_iconst 151 2 dEnd_init_151 rfl ?_
      refine g_iload 152 dEnd_init_152 rfl ?_
      refine g_imul 154 dEnd_init_154 ?_
      refine g_iconst 155 1 dEnd_init_155 rfl ?_
      refine g_iadd 156 dEnd_init_156 ?_
      refine g_callI 157 [_] dEnd_init_157 cs_End_85 rfl rfl ⟨(Nat.le_of_ble_eq_true rfl), (Nat.le_of_ble_eq_true rfl)⟩ (Nat.le_of_ble_eq_true rfl) (ct_Str_init nT) (Nat.le_of_ble_eq_true rfl) (Nat.le_of_ble_eq_true rfl) ?_
      rintro _ _ ⟨rfl, rfl⟩
      refine g_aast 160 5 dEnd_init_160 rfl (by decide) (oTT (Nat.lt_add_right 4 hla2) (oTT (Nat.lt_add_right 3 hla2) (oTT (Nat.lt_add_right 2 hla2) (oTT (Nat.lt_add_right 1 hla2) (oTT hla2 ha2))))) (vp_in_nI (by omega) (by decide)) (oT (Nat.lt_add_of_pos_right (by decide : 0 < 4)) (oT (Nat.lt_add_of_pos_right (by decide : 0 < 3)) (oT (Nat.lt_add_of_pos_right (by decide : 0 < 2)) (oT (Nat.lt_add_of_pos_right (by decide : 0 < 1)) nT)))) (by decide) rfl ?_
      refine g_iinc 161 1 dEnd_init_161 rfl rfl (by decide) rfl ?_
      refine g_goto 164 134 dEnd_init_164 rfl ?_
      rw [nI_clamp (by omega), nI_1]
      exact ih
end
section
theorem oi_End_3 : Cond.methodLink "InterleavedLink$End" 3 Lib.objectInit ∈ gW := gW_in 113 (by decide +kernel) rfl
theorem ps_End_9 {nm : String} : pS "InterleavedLink$End" nm 9 2 3 .int := ⟨"InterleavedLink$End", T_End, 17, cf_End, by decide, by decide +kernel, Or.inl ⟨rfl, Or.inl (gW_in 305 (by decide +kernel) rfl)⟩⟩
theorem ps_End_15 {nm : String} : pS "InterleavedLink$End" nm 15 2 4 .int := ⟨"InterleavedLink$End", T_End, 17, cf_End, by decide, by decide +kernel, Or.inl ⟨rfl, Or.inl (gW_in 307 (by decide +kernel) rfl)⟩⟩
theorem ps_End_18 {nm : String} : pS "InterleavedLink$End" nm 18 2 5 .int := ⟨"InterleavedLink$End", T_End, 17, cf_End, by decide, by decide +kernel, Or.inl ⟨rfl, Or.inl (gW_in 309 (by decide +kernel) rfl)⟩⟩
theorem ns_End_21 : nS "InterleavedLink$End" 21 3 4 := ⟨"InterleavedLink$FieldList", T_FList, cf_FList, (gW_in 114 (by decide +kernel) rfl), (gW_in 115 (by decide +kernel) rfl), (gW_in 67 (by decide +kernel) rfl)⟩
theorem cs_End_23 : cI "InterleavedLink$End" 23 uFList_init 0 := ⟨⟨Or.inr ⟨"InterleavedLink", (gN_in 116 (by decide +kernel) rfl)⟩, (gW_in 67 (by decide +kernel) rfl), (gW_in 118 (by decide +kernel) rfl), ⟨by decide, by decide⟩, by decide +kernel⟩, (gW_in 117 (by decide +kernel) rfl), rfl, rfl⟩
theorem ps_End_24 : pS "InterleavedLink$End" "<init>" 24 2 6 (.object "InterleavedLink$FieldList") := ⟨"InterleavedLink$End", T_End, 17, cf_End, by decide, by decide +kernel, Or.inr ⟨rfl, rfl, rfl, (gW_in 311 (by decide +kernel) rfl)⟩⟩
theorem ns_End_28 : nS "InterleavedLink$End" 28 4 4 := ⟨"InterleavedLink$Encoder", T_Enc, cf_Enc, (gW_in 143 (by decide +kernel) rfl), (gW_in 144 (by decide +kernel) rfl), (gW_in 68 (by decide +kernel) rfl)⟩
theorem cs_End_30 : cI "InterleavedLink$End" 30 uEnc_init 0 := ⟨⟨Or.inr ⟨"InterleavedLink", (gN_in 145 (by decide +kernel) rfl)⟩, (gW_in 68 (by decide +kernel) rfl), (gW_in 147 (by decide +kernel) rfl), ⟨by decide, by decide⟩, by decide +kernel⟩, (gW_in 146 (by decide +kernel) rfl), rfl, rfl⟩
theorem ps_End_31 : pS "InterleavedLink$End" "<init>" 31 2 7 (.object "InterleavedLink$Encoder") := ⟨"InterleavedLink$End", T_End, 17, cf_End, by decide, by decide +kernel, Or.inr ⟨rfl, rfl, rfl, (gW_in 313 (by decide +kernel) rfl)⟩⟩
theorem ns_End_35 : nS "InterleavedLink$End" 35 6 2 := ⟨"InterleavedLink$Decoder", T_Dec, cf_Dec, (gW_in 193 (by decide +kernel) rfl), (gW_in 194 (by decide +kernel) rfl), (gW_in 70 (by decide +kernel) rfl)⟩
theorem cs_End_37 : cI "InterleavedLink$End" 37 uDec_init 0 := ⟨⟨Or.inr ⟨"InterleavedLink", (gN_in 195 (by decide +kernel) rfl)⟩, (gW_in 70 (by decide +kernel) rfl), (gW_in 197 (by decide +kernel) rfl), ⟨by decide, by decide⟩, by decide +kernel⟩, (gW_in 196 (by decide +kernel) rfl), rfl, rfl⟩
theorem ps_End_38 : pS "InterleavedLink$End" "<init>" 38 2 8 (.object "InterleavedLink$Decoder") := ⟨"InterleavedLink$End", T_End, 17, cf_End, by decide, by decide +kernel, Or.inr ⟨rfl, rfl, rfl, (gW_in 315 (by decide +kernel) rfl)⟩⟩
theorem al_End_42 : Cond.classLink "InterleavedLink$End" 42 (aoC 5) ∈ gW := gW_in 209 (by decide +kernel) rfl
theorem ps_End_44 : pS "InterleavedLink$End" "<init>" 44 2 9 (.array (.object "InterleavedLink$Stream")) := ⟨"InterleavedLink$End", T_End, 17, cf_End, by decide, by decide +kernel, Or.inr ⟨rfl, rfl, rfl, (gW_in 317 (by decide +kernel) rfl)⟩⟩
theorem ns_End_48 : nS "InterleavedLink$End" 48 7 3 := ⟨"InterleavedLink$Settings", T_Sett, cf_Sett, (gW_in 211 (by decide +kernel) rfl), (gW_in 212 (by decide +kernel) rfl), (gW_in 71 (by decide +kernel) rfl)⟩
theorem cs_End_50 : cI "InterleavedLink$End" 50 uSett_init 0 := ⟨⟨Or.inr ⟨"InterleavedLink", (gN_in 213 (by decide +kernel) rfl)⟩, (gW_in 71 (by decide +kernel) rfl), (gW_in 215 (by decide +kernel) rfl), ⟨by decide, by decide⟩, by decide +kernel⟩, (gW_in 214 (by decide +kernel) rfl), rfl, rfl⟩
theorem ps_End_51 : pS "InterleavedLink$End" "<init>" 51 2 10 (.object "InterleavedLink$Settings") := ⟨"InterleavedLink$End", T_End, 17, cf_End, by decide, by decide +kernel, Or.inr ⟨rfl, rfl, rfl, (gW_in 318 (by decide +kernel) rfl)⟩⟩
theorem ps_End_55 : pS "InterleavedLink$End" "<init>" 55 2 11 (.object "InterleavedLink$Settings") := ⟨"InterleavedLink$End", T_End, 17, cf_End, by decide, by decide +kernel, Or.inr ⟨rfl, rfl, rfl, (gW_in 319 (by decide +kernel) rfl)⟩⟩
theorem ps_End_58 : pS "InterleavedLink$End" "<init>" 58 2 12 (.array .int) := ⟨"InterleavedLink$End", T_End, 17, cf_End, by decide, by decide +kernel, Or.inr ⟨rfl, rfl, rfl, (gW_in 320 (by decide +kernel) rfl)⟩⟩
theorem ps_End_62 : pS "InterleavedLink$End" "<init>" 62 2 13 (.array .int) := ⟨"InterleavedLink$End", T_End, 17, cf_End, by decide, by decide +kernel, Or.inr ⟨rfl, rfl, rfl, (gW_in 321 (by decide +kernel) rfl)⟩⟩
theorem ps_End_65 {nm : String} : pS "InterleavedLink$End" nm 65 2 14 .int := ⟨"InterleavedLink$End", T_End, 17, cf_End, by decide, by decide +kernel, Or.inl ⟨rfl, Or.inl (gW_in 322 (by decide +kernel) rfl)⟩⟩
theorem ps_End_68 {nm : String} : pS "InterleavedLink$End" nm 68 2 15 .int := ⟨"InterleavedLink$End", T_End, 17, cf_End, by decide, by decide +kernel, Or.inl ⟨rfl, Or.inl (gW_in 324 (by decide +kernel) rfl)⟩⟩
theorem ps_End_71 {nm : String} : pS "InterleavedLink$End" nm 71 2 16 .int := ⟨"InterleavedLink$End", T_End, 17, cf_End, by decide, by decide +kernel, Or.inl ⟨rfl, Or.inl (gW_in 325 (by decide +kernel) rfl)⟩⟩
theorem ps_End_74 : pS "InterleavedLink$End" "<init>" 74 2 0 .boolean := ⟨"InterleavedLink$End", T_End, 17, cf_End, by decide, by decide +kernel, Or.inr ⟨rfl, rfl, rfl, (gW_in 300 (by decide +kernel) rfl)⟩⟩
theorem ps_End_78 : pS "InterleavedLink$End" "<init>" 78 2 1 (.object "InterleavedLink$Pipe") := ⟨"InterleavedLink$End", T_End, 17, cf_End, by decide, by decide +kernel, Or.inr ⟨rfl, rfl, rfl, (gW_in 301 (by decide +kernel) rfl)⟩⟩
theorem ps_End_82 : pS "InterleavedLink$End" "<init>" 82 2 2 (.object "InterleavedLink$Pipe") := ⟨"InterleavedLink$End", T_End, 17, cf_End, by decide, by decide +kernel, Or.inr ⟨rfl, rfl, rfl, (gW_in 303 (by decide +kernel) rfl)⟩⟩
theorem end9_streams {M : mM} {t i o : Nat} {q : Int32} (hlt : t < mN M) : mR (mkEnd9 M t q i o) t 9 = some (mN M + 14) := by
  show up2 (up2 (mR (mkEnd8 M t)) t 1 (some i)) t 2 (some o) t 9 = _
  rw [up2_k (by decide), up2_k (by decide)]
  show up2 (mR (newM (setR (newM (mkEnd7 M t) 100 8) t 12 (some (mN M + 17))) 100 8)) t 13 (some (mN M + 18)) t 9 = _
  rw [up2_k (by decide)]
  refine oR (show t < mN M + 18 by omega) ?_
  show up2 (mR (newM (mkEnd7 M t) 100 8)) t 12 (some (mN M + 17)) t 9 = _
  rw [up2_k (by decide)]
  refine oR (M := mkEnd7 M t) (show t < mN M + 17 by omega) ?_
  show up2 (mR (newM (mkEnd6 M t) 7 3)) t 11 (some (mN M + 16)) t 9 = _
  rw [up2_k (by decide)]
  refine oR (M := mkEnd6 M t) (show t < mN M + 16 by omega) ?_
  show up2 (mR (newM (mkEnd5 M t) 7 3)) t 10 (some (mN M + 15)) t 9 = _
  rw [up2_k (by decide)]
  refine oR (M := mkEnd5 M t) (show t < mN M + 15 by omega) ?_
  show up2 (mR (newM (mkEnd4 M t) 105 12)) t 9 (some (mN M + 14)) t 9 = _
  rw [up2_same]
theorem end9_arr {M : mM} {t i o : Nat} {q : Int32} : mT (mkEnd9 M t q i o) (mN M + 14) = (105, 12) := by
  show mT (newM (setR (newM (mkEnd7 M t) 100 8) t 12 (some (mN M + 17))) 100 8) (mN M + 14) = _
  refine oTT (show mN M + 14 < mN M + 18 by omega) (oTT (M := mkEnd7 M t) (show mN M + 14 < mN M + 17 by omega) (oTT (M := mkEnd6 M t) (show mN M + 14 < mN M + 16 by omega) (oTT (M := mkEnd5 M t) (show mN M + 14 < mN M + 15 by omega) ?_)))
  exact mT_new (mkEnd4 M t) 105 12

set_option maxRecDepth 100000 in
set_option maxHeartbeats 4000000 in
theorem ct_End_init {X : mX} {l : Launch} {M : mM} {t i o : Nat} {q : Int32} (hp : (mT M t).1 = 2) (hz : q = 0 ∨ q = 1) : Ct X l uEnd_init (rn 3 54 79 1232) [.ref t, .int q, .ref i, .ref o] M (fun r M' => r = none ∧ M' = mkEnd M t q i o) := by
  refine Ct.of (by decide) (Nat.le_of_ble_eq_true rfl) ?_
  show G X l uEnd_init (rn 3 54 79 1232) 79 1232 M 0 [some (.ref t), some (.int q), some (.ref i), some (.ref o), none] [] _
  refine G.wf fun hw => ?_
  have hlt := (hw.lt (a := t) (by rw [hp]; decide)).2
  refine g_aload_n 0 dEnd_init_0 rfl ?_
  refine g_objInit 1 dEnd_init_1 oi_End_3 oi_m oi_c ⟨(Nat.le_of_ble_eq_true rfl), (Nat.le_of_ble_eq_true rfl)⟩ ?_
  refine g_aload_n 4 dEnd_init_4 rfl ?_
  refine g_iconst 5 0 dEnd_init_5 rfl ?_
  refine g_puti 6 2 3 dEnd_init_6 ps_End_9 rfl hp ?_
  refine g_aload_n 9 dEnd_init_9 rfl ?_
  refine g_bipush 10 40 dEnd_init_10 rfl ?_
  refine g_puti 12 2 4 dEnd_init_12 ps_End_15 rfl hp ?_
  refine g_aload_n 15 dEnd_init_15 rfl ?_
  refine g_bipush 16 40 dEnd_init_16 rfl ?_
  refine g_puti 18 2 5 dEnd_init_18 ps_End_18 rfl hp ?_
  refine g_aload_n 21 dEnd_init_21 rfl ?_
  refine g_new 22 3 4 dEnd_init_22 ns_End_21 (Nat.le_of_ble_eq_true rfl) (Nat.le_of_ble_eq_true rfl) ?_
  refine g_dup 25 dEnd_init_25 rfl ?_
  refine g_callI 26 [] dEnd_init_26 cs_End_23 rfl rfl ⟨(Nat.le_of_ble_eq_true rfl), (Nat.le_of_ble_eq_true rfl)⟩ (Nat.le_of_ble_eq_true rfl) (ct_FL_init nT) (Nat.le_of_ble_eq_true rfl) (Nat.le_of_ble_eq_true rfl) ?_
  rintro _ _ ⟨rfl, rfl⟩
  refine g_putr 29 2 6 dEnd_init_29 ps_End_24 rfl rfl (oT (Nat.lt_add_right 3 hlt) (oT (Nat.lt_add_right 2 hlt) (oT (Nat.lt_add_right 1 hlt) (oT (Nat.lt_add_right 0 hlt) hp)))) ?_
  refine g_aload_n 32 dEnd_init_32 rfl ?_
  refine g_new 33 4 4 dEnd_init_33 ns_End_28 (Nat.le_of_ble_eq_true rfl) (Nat.le_of_ble_eq_true rfl) ?_
  refine g_dup 36 dEnd_init_36 rfl ?_
  refine g_callI 37 [] dEnd_init_37 cs_End_30 rfl rfl ⟨(Nat.le_of_ble_eq_true rfl), (Nat.le_of_ble_eq_true rfl)⟩ (Nat.le_of_ble_eq_true rfl) (ct_Enc_init nT) (Nat.le_of_ble_eq_true rfl) (Nat.le_of_ble_eq_true rfl) ?_
  rintro _ _ ⟨rfl, rfl⟩
  refine g_putr 40 2 7 dEnd_init_40 ps_End_31 rfl rfl (oT (Nat.lt_add_right 8 hlt) (oT (Nat.lt_add_right 7 hlt) (oT (Nat.lt_add_right 6 hlt) (oT (Nat.lt_add_right 5 hlt) (oT (Nat.lt_add_right 4 hlt) (oT (Nat.lt_add_right 3 hlt) (oT (Nat.lt_add_right 2 hlt) (oT (Nat.lt_add_right 1 hlt) (oT (Nat.lt_add_right 0 hlt) hp))))))))) ?_
  refine g_aload_n 43 dEnd_init_43 rfl ?_
  refine g_new 44 6 2 dEnd_init_44 ns_End_35 (Nat.le_of_ble_eq_true rfl) (Nat.le_of_ble_eq_true rfl) ?_
  refine g_dup 47 dEnd_init_47 rfl ?_
  refine g_callI 48 [] dEnd_init_48 cs_End_37 rfl rfl ⟨(Nat.le_of_ble_eq_true rfl), (Nat.le_of_ble_eq_true rfl)⟩ (Nat.le_of_ble_eq_true rfl) (ct_Dec_init nT) (Nat.le_of_ble_eq_true rfl) (Nat.le_of_ble_eq_true rfl) ?_
  rintro _ _ ⟨rfl, rfl⟩
  refine g_putr 51 2 8 dEnd_init_51 ps_End_38 rfl rfl (oT (Nat.lt_add_right 13 hlt) (oT (Nat.lt_add_right 12 hlt) (oT (Nat.lt_add_right 11 hlt) (oT (Nat.lt_add_right 10 hlt) (oT (Nat.lt_add_right 9 hlt) (oT (Nat.lt_add_right 8 hlt) (oT (Nat.lt_add_right 7 hlt) (oT (Nat.lt_add_right 6 hlt) (oT (Nat.lt_add_right 5 hlt) (oT (Nat.lt_add_right 4 hlt) (oT (Nat.lt_add_right 3 hlt) (oT (Nat.lt_add_right 2 hlt) (oT (Nat.lt_add_right 1 hlt) (oT (Nat.lt_add_right 0 hlt) hp)))))))))))))) ?_
  refine g_aload_n 54 dEnd_init_54 rfl ?_
  refine g_bipush 55 12 dEnd_init_55 rfl ?_
  refine g_anew 57 5 12 dEnd_init_57 al_End_42 rfl (by decide) (by decide) (by decide) (by decide) (Nat.le_of_ble_eq_true rfl) (Nat.le_of_ble_eq_true rfl) ?_
  refine g_putr 60 2 9 dEnd_init_60 ps_End_44 rfl rfl (oT (Nat.lt_add_right 14 hlt) (oT (Nat.lt_add_right 13 hlt) (oT (Nat.lt_add_right 12 hlt) (oT (Nat.lt_add_right 11 hlt) (oT (Nat.lt_add_right 10 hlt) (oT (Nat.lt_add_right 9 hlt) (oT (Nat.lt_add_right 8 hlt) (oT (Nat.lt_add_right 7 hlt) (oT (Nat.lt_add_right 6 hlt) (oT (Nat.lt_add_right 5 hlt) (oT (Nat.lt_add_right 4 hlt) (oT (Nat.lt_add_right 3 hlt) (oT (Nat.lt_add_right 2 hlt) (oT (Nat.lt_add_right 1 hlt) (oT (Nat.lt_add_right 0 hlt) hp))))))))))))))) ?_
  refine g_aload_n 63 dEnd_init_63 rfl ?_
  refine g_new 64 7 3 dEnd_init_64 ns_End_48 (Nat.le_of_ble_eq_true rfl) (Nat.le_of_ble_eq_true rfl) ?_
  refine g_dup 67 dEnd_init_67 rfl ?_
  refine g_callI 68 [] dEnd_init_68 cs_End_50 rfl rfl ⟨(Nat.le_of_ble_eq_true rfl), (Nat.le_of_ble_eq_true rfl)⟩ (Nat.le_of_ble_eq_true rfl) (ct_Sett_init nT) (Nat.le_of_ble_eq_true rfl) (Nat.le_of_ble_eq_true rfl) ?_
  rintro _ _ ⟨rfl, rfl⟩
  refine g_putr 71 2 10 dEnd_init_71 ps_End_51 rfl rfl (oT (Nat.lt_add_right 15 hlt) (oT (Nat.lt_add_right 14 hlt) (oT (Nat.lt_add_right 13 hlt) (oT (Nat.lt_add_right 12 hlt) (oT (Nat.lt_add_right 11 hlt) (oT (Nat.lt_add_right 10 hlt) (oT (Nat.lt_add_right 9 hlt) (oT (Nat.lt_add_right 8 hlt) (oT (Nat.lt_add_right 7 hlt) (oT (Nat.lt_add_right 6 hlt) (oT (Nat.lt_add_right 5 hlt) (oT (Nat.lt_add_right 4 hlt) (oT (Nat.lt_add_right 3 hlt) (oT (Nat.lt_add_right 2 hlt) (oT (Nat.lt_add_right 1 hlt) (oT (Nat.lt_add_right 0 hlt) hp)))))))))))))))) ?_
  refine g_aload_n 74 dEnd_init_74 rfl ?_
  refine g_new 75 7 3 dEnd_init_75 ns_End_48 (Nat.le_of_ble_eq_true rfl) (Nat.le_of_ble_eq_true rfl) ?_
  refine g_dup 78 dEnd_init_78 rfl ?_
  refine g_callI 79 [] dEnd_init_79 cs_End_50 rfl rfl ⟨(Nat.le_of_ble_eq_true rfl), (Nat.le_of_ble_eq_true rfl)⟩ (Nat.le_of_ble_eq_true rfl) (ct_Sett_init nT) (Nat.le_of_ble_eq_true rfl) (Nat.le_of_ble_eq_true rfl) ?_
  rintro _ _ ⟨rfl, rfl⟩
  refine g_putr 82 2 11 dEnd_init_82 ps_End_55 rfl rfl (oT (Nat.lt_add_right 16 hlt) (oT (Nat.lt_add_right 15 hlt) (oT (Nat.lt_add_right 14 hlt) (oT (Nat.lt_add_right 13 hlt) (oT (Nat.lt_add_right 12 hlt) (oT (Nat.lt_add_right 11 hlt) (oT (Nat.lt_add_right 10 hlt) (oT (Nat.lt_add_right 9 hlt) (oT (Nat.lt_add_right 8 hlt) (oT (Nat.lt_add_right 7 hlt) (oT (Nat.lt_add_right 6 hlt) (oT (Nat.lt_add_right 5 hlt) (oT (Nat.lt_add_right 4 hlt) (oT (Nat.lt_add_right 3 hlt) (oT (Nat.lt_add_right 2 hlt) (oT (Nat.lt_add_right 1 hlt) (oT (Nat.lt_add_right 0 hlt) hp))))))))))))))))) ?_
  refine g_aload_n 85 dEnd_init_85 rfl ?_
  refine g_bipush 86 8 dEnd_init_86 rfl ?_
  refine g_newa 88 0 8 dEnd_init_88 aw_int rfl rfl (fun _ => rfl) (fun _ _ h => h) (by decide) (by decide) (by decide) (by decide) (Nat.le_of_ble_eq_true rfl) (Nat.le_of_ble_eq_true rfl) ?_
  refine g_putr 90 2 12 dEnd_init_90 ps_End_58 rfl rfl (oT (Nat.lt_add_right 17 hlt) (oT (Nat.lt_add_right 16 hlt) (oT (Nat.lt_add_right 15 hlt) (oT (Nat.lt_add_right 14 hlt) (oT (Nat.lt_add_right 13 hlt) (oT (Nat.lt_add_right 12 hlt) (oT (Nat.lt_add_right 11 hlt) (oT (Nat.lt_add_right 10 hlt) (oT (Nat.lt_add_right 9 hlt) (oT (Nat.lt_add_right 8 hlt) (oT (Nat.lt_add_right 7 hlt) (oT (Nat.lt_add_right 6 hlt) (oT (Nat.lt_add_right 5 hlt) (oT (Nat.lt_add_right 4 hlt) (oT (Nat.lt_add_right 3 hlt) (oT (Nat.lt_add_right 2 hlt) (oT (Nat.lt_add_right 1 hlt) (oT (Nat.lt_add_right 0 hlt) hp)))))))))))))))))) ?_
  refine g_aload_n 93 dEnd_init_93 rfl ?_
  refine g_bipush 94 8 dEnd_init_94 rfl ?_
  refine g_newa 96 0 8 dEnd_init_96 aw_int rfl rfl (fun _ => rfl) (fun _ _ h => h) (by decide) (by decide) (by decide) (by decide) (Nat.le_of_ble_eq_true rfl) (Nat.le_of_ble_eq_true rfl) ?_
  refine g_putr 98 2 13 dEnd_init_98 ps_End_62 rfl rfl (oT (Nat.lt_add_right 18 hlt) (oT (Nat.lt_add_right 17 hlt) (oT (Nat.lt_add_right 16 hlt) (oT (Nat.lt_add_right 15 hlt) (oT (Nat.lt_add_right 14 hlt) (oT (Nat.lt_add_right 13 hlt) (oT (Nat.lt_add_right 12 hlt) (oT (Nat.lt_add_right 11 hlt) (oT (Nat.lt_add_right 10 hlt) (oT (Nat.lt_add_right 9 hlt) (oT (Nat.lt_add_right 8 hlt) (oT (Nat.lt_add_right 7 hlt) (oT (Nat.lt_add_right 6 hlt) (oT (Nat.lt_add_right 5 hlt) (oT (Nat.lt_add_right 4 hlt) (oT (Nat.lt_add_right 3 hlt) (oT (Nat.lt_add_right 2 hlt) (oT (Nat.lt_add_right 1 hlt) (oT (Nat.lt_add_right 0 hlt) hp))))))))))))))))))) ?_
  refine g_aload_n 101 dEnd_init_101 rfl ?_
  refine g_iconst 102 0 dEnd_init_102 rfl ?_
  refine g_puti 103 2 14 dEnd_init_103 ps_End_65 rfl (oT (Nat.lt_add_right 18 hlt) (oT (Nat.lt_add_right 17 hlt) (oT (Nat.lt_add_right 16 hlt) (oT (Nat.lt_add_right 15 hlt) (oT (Nat.lt_add_right 14 hlt) (oT (Nat.lt_add_right 13 hlt) (oT (Nat.lt_add_right 12 hlt) (oT (Nat.lt_add_right 11 hlt) (oT (Nat.lt_add_right 10 hlt) (oT (Nat.lt_add_right 9 hlt) (oT (Nat.lt_add_right 8 hlt) (oT (Nat.lt_add_right 7 hlt) (oT (Nat.lt_add_right 6 hlt) (oT (Nat.lt_add_right 5 hlt) (oT (Nat.lt_add_right 4 hlt) (oT (Nat.lt_add_right 3 hlt) (oT (Nat.lt_add_right 2 hlt) (oT (Nat.lt_add_right 1 hlt) (oT (Nat.lt_add_right 0 hlt) hp))))))))))))))))))) ?_
  refine g_aload_n 106 dEnd_init_106 rfl ?_
  refine g_iconst 107 1 dEnd_init_107 rfl ?_
  refine g_puti 108 2 15 dEnd_init_108 ps_End_68 rfl (oT (Nat.lt_add_right 18 hlt) (oT (Nat.lt_add_right 17 hlt) (oT (Nat.lt_add_right 16 hlt) (oT (Nat.lt_add_right 15 hlt) (oT (Nat.lt_add_right 14 hlt) (oT (Nat.lt_add_right 13 hlt) (oT (Nat.lt_add_right 12 hlt) (oT (Nat.lt_add_right 11 hlt) (oT (Nat.lt_add_right 10 hlt) (oT (Nat.lt_add_right 9 hlt) (oT (Nat.lt_add_right 8 hlt) (oT (Nat.lt_add_right 7 hlt) (oT (Nat.lt_add_right 6 hlt) (oT (Nat.lt_add_right 5 hlt) (oT (Nat.lt_add_right 4 hlt) (oT (Nat.lt_add_right 3 hlt) (oT (Nat.lt_add_right 2 hlt) (oT (Nat.lt_add_right 1 hlt) (oT (Nat.lt_add_right 0 hlt) hp))))))))))))))))))) ?_
  refine g_aload_n 111 dEnd_init_111 rfl ?_
  refine g_iconst 112 (-1) dEnd_init_112 rfl ?_
  refine g_puti 113 2 16 dEnd_init_113 ps_End_71 rfl (oT (Nat.lt_add_right 18 hlt) (oT (Nat.lt_add_right 17 hlt) (oT (Nat.lt_add_right 16 hlt) (oT (Nat.lt_add_right 15 hlt) (oT (Nat.lt_add_right 14 hlt) (oT (Nat.lt_add_right 13 hlt) (oT (Nat.lt_add_right 12 hlt) (oT (Nat.lt_add_right 11 hlt) (oT (Nat.lt_add_right 10 hlt) (oT (Nat.lt_add_right 9 hlt) (oT (Nat.lt_add_right 8 hlt) (oT (Nat.lt_add_right 7 hlt) (oT (Nat.lt_add_right 6 hlt) (oT (Nat.lt_add_right 5 hlt) (oT (Nat.lt_add_right 4 hlt) (oT (Nat.lt_add_right 3 hlt) (oT (Nat.lt_add_right 2 hlt) (oT (Nat.lt_add_right 1 hlt) (oT (Nat.lt_add_right 0 hlt) hp))))))))))))))))))) ?_
  refine g_aload_n 116 dEnd_init_116 rfl ?_
  refine g_iload_n 117 dEnd_init_117 rfl ?_
  refine g_putz 118 2 0 dEnd_init_118 ps_End_74 rfl hz (oT (Nat.lt_add_right 18 hlt) (oT (Nat.lt_add_right 17 hlt) (oT (Nat.lt_add_right 16 hlt) (oT (Nat.lt_add_right 15 hlt) (oT (Nat.lt_add_right 14 hlt) (oT (Nat.lt_add_right 13 hlt) (oT (Nat.lt_add_right 12 hlt) (oT (Nat.lt_add_right 11 hlt) (oT (Nat.lt_add_right 10 hlt) (oT (Nat.lt_add_right 9 hlt) (oT (Nat.lt_add_right 8 hlt) (oT (Nat.lt_add_right 7 hlt) (oT (Nat.lt_add_right 6 hlt) (oT (Nat.lt_add_right 5 hlt) (oT (Nat.lt_add_right 4 hlt) (oT (Nat.lt_add_right 3 hlt) (oT (Nat.lt_add_right 2 hlt) (oT (Nat.lt_add_right 1 hlt) (oT (Nat.lt_add_right 0 hlt) hp))))))))))))))))))) ?_
  refine g_aload_n 121 dEnd_init_121 rfl ?_
  refine g_aload_n 122 dEnd_init_122 rfl ?_
  refine g_putr 123 2 1 dEnd_init_123 ps_End_78 rfl rfl (oT (Nat.lt_add_right 18 hlt) (oT (Nat.lt_add_right 17 hlt) (oT (Nat.lt_add_right 16 hlt) (oT (Nat.lt_add_right 15 hlt) (oT (Nat.lt_add_right 14 hlt) (oT (Nat.lt_add_right 13 hlt) (oT (Nat.lt_add_right 12 hlt) (oT (Nat.lt_add_right 11 hlt) (oT (Nat.lt_add_right 10 hlt) (oT (Nat.lt_add_right 9 hlt) (oT (Nat.lt_add_right 8 hlt) (oT (Nat.lt_add_right 7 hlt) (oT (Nat.lt_add_right 6 hlt) (oT (Nat.lt_add_right 5 hlt) (oT (Nat.lt_add_right 4 hlt) (oT (Nat.lt_add_right 3 hlt) (oT (Nat.lt_add_right 2 hlt) (oT (Nat.lt_add_right 1 hlt) (oT (Nat.lt_add_right 0 hlt) hp))))))))))))))))))) ?_
  refine g_aload_n 126 dEnd_init_126 rfl ?_
  refine g_aload_n 127 dEnd_init_127 rfl ?_
  refine g_putr 128 2 2 dEnd_init_128 ps_End_82 rfl rfl (oT (Nat.lt_add_right 18 hlt) (oT (Nat.lt_add_right 17 hlt) (oT (Nat.lt_add_right 16 hlt) (oT (Nat.lt_add_right 15 hlt) (oT (Nat.lt_add_right 14 hlt) (oT (Nat.lt_add_right 13 hlt) (oT (Nat.lt_add_right 12 hlt) (oT (Nat.lt_add_right 11 hlt) (oT (Nat.lt_add_right 10 hlt) (oT (Nat.lt_add_right 9 hlt) (oT (Nat.lt_add_right 8 hlt) (oT (Nat.lt_add_right 7 hlt) (oT (Nat.lt_add_right 6 hlt) (oT (Nat.lt_add_right 5 hlt) (oT (Nat.lt_add_right 4 hlt) (oT (Nat.lt_add_right 3 hlt) (oT (Nat.lt_add_right 2 hlt) (oT (Nat.lt_add_right 1 hlt) (oT (Nat.lt_add_right 0 hlt) hp))))))))))))))))))) ?_
  refine g_iconst 131 0 dEnd_init_131 rfl ?_
  refine g_istore 132 dEnd_init_132 (by decide) rfl ?_
  refine G.wf fun hw2 => ?_
  exact g_End_loop (M := mkEnd9 M t q i o) (t := t) (arr := mN M + 14) (i := i) (o := o) (q := q) (oT (Nat.lt_add_right 18 hlt) (oT (Nat.lt_add_right 17 hlt) (oT (Nat.lt_add_right 16 hlt) (oT (Nat.lt_add_right 15 hlt) (oT (Nat.lt_add_right 14 hlt) (oT (Nat.lt_add_right 13 hlt) (oT (Nat.lt_add_right 12 hlt) (oT (Nat.lt_add_right 11 hlt) (oT (Nat.lt_add_right 10 hlt) (oT (Nat.lt_add_right 9 hlt) (oT (Nat.lt_add_right 8 hlt) (oT (Nat.lt_add_right 7 hlt) (oT (Nat.lt_add_right 6 hlt) (oT (Nat.lt_add_right 5 hlt) (oT (Nat.lt_add_right 4 hlt) (oT (Nat.lt_add_right 3 hlt) (oT (Nat.lt_add_right 2 hlt) (oT (Nat.lt_add_right 1 hlt) (oT (Nat.lt_add_right 0 hlt) hp))))))))))))))))))) (end9_streams hlt) (Nat.ne_of_lt (Nat.lt_add_right 14 hlt)) end9_arr hw2 ⟨rfl, rfl⟩ 12 0 rfl
end
section
theorem dLink_init_0 : decode uLink_init.2.1 0 = .ok (.aload_n 0, 1) := by decide +kernel
theorem dLink_init_1 : decode uLink_init.2.1 1 = .ok (.invokespecial 1, 3) := by decide +kernel
theorem dLink_init_4 : decode uLink_init.2.1 4 = .ok (.new 7, 3) := by decide +kernel
theorem dLink_init_7 : decode uLink_init.2.1 7 = .ok (.dup, 1) := by decide +kernel
theorem dLink_init_8 : decode uLink_init.2.1 8 = .ok (.invokespecial 9, 3) := by decide +kernel
theorem dLink_init_11 : decode uLink_init.2.1 11 = .ok (.astore_n 1, 1) := by decide +kernel
theorem dLink_init_12 : decode uLink_init.2.1 12 = .ok (.new 7, 3) := by decide +kernel
theorem dLink_init_15 : decode uLink_init.2.1 15 = .ok (.dup, 1) := by decide +kernel
theorem dLink_init_16 : decode uLink_init.2.1 16 = .ok (.invokespecial 9, 3) := by decide +kernel
theorem dLink_init_19 : decode uLink_init.2.1 19 = .ok (.astore_n 2, 1) := by decide +kernel
theorem dLink_init_20 : decode uLink_init.2.1 20 = .ok (.aload_n 0, 1) := by decide +kernel
theorem dLink_init_21 : decode uLink_init.2.1 21 = .ok (.iconst 2, 1) := by decide +kernel
theorem dLink_init_22 : decode uLink_init.2.1 22 = .ok (.anewarray 10, 3) := by decide +kernel
theorem dLink_init_25 : decode uLink_init.2.1 25 = .ok (.putfield 12, 3) := by decide +kernel
theorem dLink_init_28 : decode uLink_init.2.1 28 = .ok (.aload_n 0, 1) := by decide +kernel
theorem dLink_init_29 : decode uLink_init.2.1 29 = .ok (.getfield 12, 3) := by decide +kernel
theorem dLink_init_32 : decode uLink_init.2.1 32 = .ok (.iconst 0, 1) := by decide +kernel
theorem dLink_init_33 : decode uLink_init.2.1 33 = .ok (.new 10, 3) := by decide +kernel
theorem dLink_init_36 : decode uLink_init.2.1 36 = .ok (.dup, 1) := by decide +kernel
theorem dLink_init_37 : decode uLink_init.2.1 37 = .ok (.iconst 1, 1) := by decide +kernel
theorem dLink_init_38 : decode uLink_init.2.1 38 = .ok (.aload_n 1, 1) := by decide +kernel
theorem dLink_init_39 : decode uLink_init.2.1 39 = .ok (.aload_n 2, 1) := by decide +kernel
theorem dLink_init_40 : decode uLink_init.2.1 40 = .ok (.invokespecial 18, 3) := by decide +kernel
theorem dLink_init_43 : decode uLink_init.2.1 43 = .ok (.aastore, 1) := by decide +kernel
theorem dLink_init_44 : decode uLink_init.2.1 44 = .ok (.aload_n 0, 1) := by decide +kernel
theorem dLink_init_45 : decode uLink_init.2.1 45 = .ok (.getfield 12, 3) := by decide +kernel
theorem dLink_init_48 : decode uLink_init.2.1 48 = .ok (.iconst 1, 1) := by decide +kernel
theorem dLink_init_49 : decode uLink_init.2.1 49 = .ok (.new 10, 3) := by decide +kernel
theorem dLink_init_52 : decode uLink_init.2.1 52 = .ok (.dup, 1) := by decide +kernel
theorem dLink_init_53 : decode uLink_init.2.1 53 = .ok (.iconst 0, 1) := by decide +kernel
theorem dLink_init_54 : decode uLink_init.2.1 54 = .ok (.aload_n 2, 1) := by decide +kernel
theorem dLink_init_55 : decode uLink_init.2.1 55 = .ok (.aload_n 1, 1) := by decide +kernel
theorem dLink_init_56 : decode uLink_init.2.1 56 = .ok (.invokespecial 18, 3) := by decide +kernel
theorem dLink_init_59 : decode uLink_init.2.1 59 = .ok (.aastore, 1) := by decide +kernel
theorem dLink_init_60 : decode uLink_init.2.1 60 = .ok (.return_, 1) := by decide +kernel
theorem oi_Link_1 : Cond.methodLink "InterleavedLink" 1 Lib.objectInit ∈ gW := gW_in 85 (by decide +kernel) rfl
theorem ns_Link_7 : nS "InterleavedLink" 7 1 3 := ⟨"InterleavedLink$Pipe", T_Pipe, cf_Pipe, (gW_in 88 (by decide +kernel) rfl), (gW_in 89 (by decide +kernel) rfl), (gW_in 65 (by decide +kernel) rfl)⟩
theorem cs_Link_9 : cI "InterleavedLink" 9 uPipe_init 0 := ⟨⟨Or.inr ⟨"InterleavedLink", (gN_in 90 (by decide +kernel) rfl)⟩, (gW_in 65 (by decide +kernel) rfl), (gW_in 92 (by decide +kernel) rfl), ⟨by decide, by decide⟩, by decide +kernel⟩, (gW_in 91 (by decide +kernel) rfl), rfl, rfl⟩
theorem al_Link_10 : Cond.classLink "InterleavedLink" 10 (aoC 6) ∈ gW := gW_in 107 (by decide +kernel) rfl
theorem cfw_Link : ∀ k, k < 1 → u_lay "InterleavedLink" T_Link k ∈ gW
  | 0, _ => gW_in 362 (by decide +kernel) rfl
  | (_ + 1), h => absurd h (by omega)
theorem cf_Link : cF 0 "InterleavedLink" T_Link 1 := ⟨by decide, rfl, fun w hw => by
  obtain ⟨k, hk, rfl⟩ := List.mem_map.mp hw
  exact cfw_Link k (List.mem_range.mp hk), by decide +kernel, ty_Link, by decide +kernel⟩
theorem ps_Link_12 : pS "InterleavedLink" "<init>" 12 0 0 (.array (.object "InterleavedLink$End")) := ⟨"InterleavedLink", T_Link, 1, cf_Link, by decide, by decide +kernel, Or.inr ⟨rfl, rfl, rfl, (gW_in 361 (by decide +kernel) rfl)⟩⟩
theorem fs_Link_12 : fS "InterleavedLink" 12 0 0 := ⟨"InterleavedLink", T_Link, 1, cf_Link, by decide, Or.inl (gW_in 361 (by decide +kernel) rfl)⟩
theorem ns_Link_10 : nS "InterleavedLink" 10 2 17 := ⟨"InterleavedLink$End", T_End, cf_End, (gW_in 107 (by decide +kernel) rfl), (gW_in 109 (by decide +kernel) rfl), (gW_in 66 (by decide +kernel) rfl)⟩
theorem cs_Link_18 : cI "InterleavedLink" 18 uEnd_init 3 := ⟨⟨Or.inl (gW_in 110 (by decide +kernel) rfl), (gW_in 66 (by decide +kernel) rfl), (gW_in 112 (by decide +kernel) rfl), ⟨by decide, by decide⟩, by decide +kernel⟩, (gW_in 111 (by decide +kernel) rfl), rfl, rfl⟩
theorem Ex.sub {M M' M2 : mM} {D E : Nat → Prop} (h : Ex M M' D) (h2 : Ex M' M2 E) (hb : ∀ a, E a → mN M ≤ a) : Ex M M2 D :=
  ⟨Nat.le_trans h.1 h2.1, fun a ha => (h2.2.1 a (Nat.lt_of_lt_of_le ha h.1)).trans (h.2.1 a ha), fun a ha hd => by
    obtain ⟨i1, i2, i3⟩ := h2.2.2 a (Nat.lt_of_lt_of_le ha h.1) (fun q => absurd (hb a q) (by omega))
    obtain ⟨j1, j2, j3⟩ := h.2.2 a ha hd
    exact ⟨fun k => (i1 k).trans (j1 k), fun k => (i2 k).trans (j2 k), fun k => (i3 k).trans (j3 k)⟩⟩
theorem ex_FL {M : mM} {t : Nat} : Ex M (mkFL M t) (fun a => a = t) := by
  unfold mkFL
  exact Ex.setI (Ex.setR (Ex.new (Ex.setR (Ex.new (Ex.setR (Ex.new Ex.rf) (Or.inl rfl))) (Or.inl rfl))) (Or.inl rfl)) (Or.inl rfl)
theorem ex_Tab {M : mM} {t : Nat} : Ex M (mkTab M t) (fun a => a = t) := by
  unfold mkTab
  exact Ex.setI (Ex.setI (Ex.setI (Ex.setR (Ex.new (Ex.setR (Ex.new (Ex.setR (Ex.new Ex.rf) (Or.inl rfl))) (Or.inl rfl))) (Or.inl rfl)) (Or.inl rfl)) (Or.inl rfl)) (Or.inl rfl)
theorem ex_Enc {M : mM} {t : Nat} : Ex M (mkEnc M t) (fun a => a = t) := by
  unfold mkEnc
  exact Ex.setI (Ex.setI (Ex.setI (Ex.setR (Ex.sub (Ex.new Ex.rf) ex_Tab (fun a e => by rw [e]; exact Nat.le_refl _)) (Or.inl rfl)) (Or.inl rfl)) (Or.inl rfl)) (Or.inl rfl)
theorem ex_Dec {M : mM} {t : Nat} : Ex M (mkDec M t) (fun a => a = t) := by
  unfold mkDec
  exact Ex.setI (Ex.setR (Ex.sub (Ex.new Ex.rf) ex_Tab (fun a e => by rw [e]; exact Nat.le_refl _)) (Or.inl rfl)) (Or.inl rfl)
theorem ex_Sett {M : mM} {t : Nat} : Ex M (mkSett M t) (fun a => a = t) := by
  unfold mkSett
  exact Ex.setI (Ex.setI (Ex.setI Ex.rf (Or.inl rfl)) (Or.inl rfl)) (Or.inl rfl)
theorem ex_Pipe {M : mM} {t : Nat} : Ex M (mkPipe M t) (fun a => a = t) := by
  unfold mkPipe
  exact Ex.setI (Ex.setI (Ex.setR (Ex.new Ex.rf) (Or.inl rfl)) (Or.inl rfl)) (Or.inl rfl)
theorem le_of_eqk {n k a : Nat} (e : a = n + k) : n ≤ a := by omega
theorem ex_End9 {M : mM} {t i o : Nat} {q : Int32} : Ex M (mkEnd9 M t q i o) (fun a => a = t) := by
  have e1 : Ex M (mkEnd1 M t) (fun a => a = t) := Ex.setI (Ex.setI (Ex.setI Ex.rf (Or.inl rfl)) (Or.inl rfl)) (Or.inl rfl)
  have e2 : Ex M (mkEnd2 M t) (fun a => a = t) := Ex.setR (Ex.sub (Ex.new e1) ex_FL (fun a e => le_of_eqk (k := 0) e)) (Or.inl rfl)
  have e3 : Ex M (mkEnd3 M t) (fun a => a = t) := Ex.setR (Ex.sub (Ex.new e2) ex_Enc (fun a e => le_of_eqk e)) (Or.inl rfl)
  have e4 : Ex M (mkEnd4 M t) (fun a => a = t) := Ex.setR (Ex.sub (Ex.new e3) ex_Dec (fun a e => le_of_eqk e)) (Or.inl rfl)
  have e5 : Ex M (mkEnd5 M t) (fun a => a = t) := Ex.setR (Ex.new e4) (Or.inl rfl)
  have e6 : Ex M (mkEnd6 M t) (fun a => a = t) := Ex.setR (Ex.sub (Ex.new e5) ex_Sett (fun a e => le_of_eqk e)) (Or.inl rfl)
  have e7 : Ex M (mkEnd7 M t) (fun a => a = t) := Ex.setR (Ex.sub (Ex.new e6) ex_Sett (fun a e => le_of_eqk e)) (Or.inl rfl)
  have e8 : Ex M (mkEnd8 M t) (fun a => a = t) := Ex.setR (Ex.new (Ex.setR (Ex.new e7) (Or.inl rfl))) (Or.inl rfl)
  exact Ex.setR (Ex.setR (Ex.setI (Ex.setI (Ex.setI (Ex.setI e8 (Or.inl rfl)) (Or.inl rfl)) (Or.inl rfl)) (Or.inl rfl)) (Or.inl rfl)) (Or.inl rfl)
theorem ex_End {M : mM} {t i o : Nat} {q : Int32} : Ex M (mkEnd M t q i o) (fun a => a = t) := Ex.sub ex_End9 (ex_Strs _ _ 12) (fun a e => le_of_eqk e)
theorem mN_End {M : mM} {t i o : Nat} {q : Int32} : mN (mkEnd M t q i o) = mN M + 79 := (mN_strs _ _ 12).trans rfl
/-- the link: two pipes, the row of ends, the ends -/
def mkLink3 (M : mM) (t : Nat) : mM := setR (newM (mkPipe (newM (mkPipe (newM M 1 3) (mN M)) 1 3) (mN M + 2)) 106 2) t 0 (some (mN M + 4))
def mkLink4 (M : mM) (t : Nat) : mM := setR (mkEnd (newM (mkLink3 M t) 2 17) (mN M + 5) 1 (mN M) (mN M + 2)) (mN M + 4) 0 (some (mN M + 5))
def mkLink (M : mM) (t : Nat) : mM := setR (mkEnd (newM (mkLink4 M t) 2 17) (mN (mkLink4 M t)) 0 (mN M + 2) (mN M)) (mN M + 4) 1 (some (mN (mkLink4 M t)))
theorem lk3_T {M : mM} {t : Nat} (hlt : t < mN M) (hp : (mT M t).1 = 0) : (mT (mkLink3 M t) t).1 = 0 := oT (Nat.lt_add_right 4 hlt) (oT (Nat.lt_add_right 3 hlt) (oT (Nat.lt_add_right 2 hlt) (oT (Nat.lt_add_right 1 hlt) (oT (Nat.lt_add_right 0 hlt) hp))))
theorem lk3_A {M : mM} {t : Nat} : mT (mkLink3 M t) (mN M + 4) = (106, 2) := mT_new (mkPipe (newM (mkPipe (newM M 1 3) (mN M)) 1 3) (mN M + 2)) 106 2
theorem lk3_R {M : mM} {t : Nat} : mR (mkLink3 M t) t 0 = some (mN M + 4) := up2_same
theorem lk4_E {M : mM} {t : Nat} : Ex (newM (mkLink3 M t) 2 17) (mkLink4 M t) (fun a => a = mN M + 5 ∨ a = mN M + 4) := Ex.setR (ex_End.wide fun a _ e => Or.inl e) (Or.inl (Or.inr rfl))
theorem lk4_T {M : mM} {t : Nat} (hlt : t < mN M) (hp : (mT M t).1 = 0) : (mT (mkLink4 M t) t).1 = 0 := by
  rw [lk4_E.2.1 t (show t < mN M + 6 by omega)]
  exact oT (show t < mN M + 5 by omega) (lk3_T hlt hp)
theorem lk4_A {M : mM} {t : Nat} : mT (mkLink4 M t) (mN M + 4) = (106, 2) := by
  rw [lk4_E.2.1 (mN M + 4) (show mN M + 4 < mN M + 6 by omega)]
  exact oTT (show mN M + 4 < mN M + 5 by omega) lk3_A
theorem lk4_R {M : mM} {t : Nat} (hlt : t < mN M) : mR (mkLink4 M t) t 0 = some (mN M + 4) := by
  rw [(lk4_E.2.2 t (show t < mN M + 6 by omega) (by omega)).2.2]
  exact oR (show t < mN M + 5 by omega) lk3_R
theorem lk4_N {M : mM} {t : Nat} : mN (mkLink4 M t) = mN M + 85 := by
  show mN (mkEnd (newM (mkLink3 M t) 2 17) (mN M + 5) 1 (mN M) (mN M + 2)) = _
  rw [mN_End]
  rfl

set_option maxRecDepth 100000 in
set_option maxHeartbeats 4000000 in
theorem ct_Link_init {X : mX} {l : Launch} {M : mM} {t : Nat} (hp : (mT M t).1 = 0) : Ct X l uLink_init (rn 4 78 165 2602) [.ref t] M (fun r M' => r = none ∧ M' = mkLink M t) := by
  refine Ct.of (by decide) (Nat.le_of_ble_eq_true rfl) ?_
  show G X l uLink_init (rn 4 78 165 2602) 165 2602 M 0 [some (.ref t), none, none] [] _
  refine G.wf fun hw => ?_
  have hlt := (hw.lt (a := t) (by rw [hp]; decide)).2
  refine g_aload_n 0 dLink_init_0 rfl ?_
  refine g_objInit 1 dLink_init_1 oi_Link_1 oi_m oi_c ⟨(Nat.le_of_ble_eq_true rfl), (Nat.le_of_ble_eq_true rfl)⟩ ?_
  refine g_new 4 1 3 dLink_init_4 ns_Link_7 (Nat.le_of_ble_eq_true rfl) (Nat.le_of_ble_eq_true rfl) ?_
  refine g_dup 7 dLink_init_7 rfl ?_
  refine g_callI 8 [] dLink_init_8 cs_Link_9 rfl rfl ⟨(Nat.le_of_ble_eq_true rfl), (Nat.le_of_ble_eq_true rfl)⟩ (Nat.le_of_ble_eq_true rfl) (ct_Pipe_init nT) (Nat.le_of_ble_eq_true rfl) (Nat.le_of_ble_eq_true rfl) ?_
  rintro _ _ ⟨rfl, rfl⟩
  refine g_astore_n 11 dLink_init_11 (by decide) rfl ?_
  refine g_new 12 1 3 dLink_init_12 ns_Link_7 (Nat.le_of_ble_eq_true rfl) (Nat.le_of_ble_eq_true rfl) ?_
  refine g_dup 15 dLink_init_15 rfl ?_
  refine g_callI 16 [] dLink_init_16 cs_Link_9 rfl rfl ⟨(Nat.le_of_ble_eq_true rfl), (Nat.le_of_ble_eq_true rfl)⟩ (Nat.le_of_ble_eq_true rfl) (ct_Pipe_init nT) (Nat.le_of_ble_eq_true rfl) (Nat.le_of_ble_eq_true rfl) ?_
  rintro _ _ ⟨rfl, rfl⟩
  refine g_astore_n 19 dLink_init_19 (by decide) rfl ?_
  refine g_aload_n 20 dLink_init_20 rfl ?_
  refine g_iconst 21 2 dLink_init_21 rfl ?_
  refine g_anew 22 6 2 dLink_init_22 al_Link_10 rfl (by decide) (by decide) (by decide) (by decide) (Nat.le_of_ble_eq_true rfl) (Nat.le_of_ble_eq_true rfl) ?_
  refine g_putr 25 0 0 dLink_init_25 ps_Link_12 rfl rfl (oT (Nat.lt_add_right 4 hlt) (oT (Nat.lt_add_right 3 hlt) (oT (Nat.lt_add_right 2 hlt) (oT (Nat.lt_add_right 1 hlt) (oT (Nat.lt_add_right 0 hlt) hp))))) ?_
  refine g_aload_n 28 dLink_init_28 rfl ?_
  refine g_getr 29 0 0 dLink_init_29 fs_Link_12 rfl (lk3_T hlt hp) lk3_R ?_
  refine g_iconst 32 0 dLink_init_32 rfl ?_
  refine g_new 33 2 17 dLink_init_33 ns_Link_10 (Nat.le_of_ble_eq_true rfl) (Nat.le_of_ble_eq_true rfl) ?_
  refine g_dup 36 dLink_init_36 rfl ?_
  refine g_iconst 37 1 dLink_init_37 rfl ?_
  refine g_aload_n 38 dLink_init_38 rfl ?_
  refine g_aload_n 39 dLink_init_39 rfl ?_
  refine g_callI 40 [_, _, _] dLink_init_40 cs_Link_18 rfl rfl ⟨(Nat.le_of_ble_eq_true rfl), (Nat.le_of_ble_eq_true rfl)⟩ (Nat.le_of_ble_eq_true rfl) (ct_End_init nT (Or.inr rfl)) (Nat.le_of_ble_eq_true rfl) (Nat.le_of_ble_eq_true rfl) ?_
  rintro _ _ ⟨rfl, rfl⟩
  refine g_aast 43 6 (ci := 2) dLink_init_43 rfl (by decide) (by rw [ex_End.2.1 (mN M + 4) (show mN M + 4 < mN M + 6 by omega)]; exact oTT (show mN M + 4 < mN M + 5 by omega) lk3_A) (by unfold vp_in; decide) (by rw [ex_End.2.1 _ (show mN M + 5 < mN M + 6 by omega)]; exact nT (M := mkLink3 M t)) (by decide) rfl ?_
  refine g_aload_n 44 dLink_init_44 rfl ?_
  refine g_getr 45 0 0 dLink_init_45 fs_Link_12 rfl (lk4_T hlt hp) (lk4_R hlt) ?_
  refine g_iconst 48 1 dLink_init_48 rfl ?_
  refine g_new 49 2 17 dLink_init_49 ns_Link_10 (Nat.le_of_ble_eq_true rfl) (Nat.le_of_ble_eq_true rfl) ?_
  refine g_dup 52 dLink_init_52 rfl ?_
  refine g_iconst 53 0 dLink_init_53 rfl ?_
  refine g_aload_n 54 dLink_init_54 rfl ?_
  refine g_aload_n 55 dLink_init_55 rfl ?_
  refine g_callI 56 [_, _, _] dLink_init_56 cs_Link_18 rfl rfl ⟨(Nat.le_of_ble_eq_true rfl), (Nat.le_of_ble_eq_true rfl)⟩ (Nat.le_of_ble_eq_true rfl) (ct_End_init nT (Or.inl rfl)) (Nat.le_of_ble_eq_true rfl) (Nat.le_of_ble_eq_true rfl) ?_
  rintro _ _ ⟨rfl, rfl⟩
  refine g_aast 59 6 (ci := 2) dLink_init_59 rfl (by decide) (by rw [ex_End.2.1 (mN M + 4) (by show mN M + 4 < mN (mkLink4 M t) + 1; rw [lk4_N]; omega)]; exact oTT (M := mkLink4 M t) (by rw [lk4_N]; omega) lk4_A) (by unfold vp_in; decide) (by rw [ex_End.2.1 _ (Nat.lt_succ_self _)]; exact nT (M := mkLink4 M t)) (by decide) rfl ?_
  exact g_vret 60 dLink_init_60 rfl ⟨rfl, rfl⟩
end
section
theorem dMod_init_0 : decode uMod_init.2.1 0 = .ok (.aload_n 0, 1) := by decide +kernel
theorem dMod_init_1 : decode uMod_init.2.1 1 = .ok (.invokespecial 1, 3) := by decide +kernel
theorem dMod_init_4 : decode uMod_init.2.1 4 = .ok (.aload_n 0, 1) := by decide +kernel
theorem dMod_init_5 : decode uMod_init.2.1 5 = .ok (.iconst 2, 1) := by decide +kernel
theorem dMod_init_6 : decode uMod_init.2.1 6 = .ok (.newarray .int, 2) := by decide +kernel
theorem dMod_init_8 : decode uMod_init.2.1 8 = .ok (.putfield 7, 3) := by decide +kernel
theorem dMod_init_11 : decode uMod_init.2.1 11 = .ok (.aload_n 0, 1) := by decide +kernel
theorem dMod_init_12 : decode uMod_init.2.1 12 = .ok (.iconst 2, 1) := by decide +kernel
theorem dMod_init_13 : decode uMod_init.2.1 13 = .ok (.newarray .int, 2) := by decide +kernel
theorem dMod_init_15 : decode uMod_init.2.1 15 = .ok (.putfield 13, 3) := by decide +kernel
theorem dMod_init_18 : decode uMod_init.2.1 18 = .ok (.aload_n 0, 1) := by decide +kernel
theorem dMod_init_19 : decode uMod_init.2.1 19 = .ok (.iconst 2, 1) := by decide +kernel
theorem dMod_init_20 : decode uMod_init.2.1 20 = .ok (.newarray .int, 2) := by decide +kernel
theorem dMod_init_22 : decode uMod_init.2.1 22 = .ok (.putfield 16, 3) := by decide +kernel
theorem dMod_init_25 : decode uMod_init.2.1 25 = .ok (.aload_n 0, 1) := by decide +kernel
theorem dMod_init_26 : decode uMod_init.2.1 26 = .ok (.bipush 96, 2) := by decide +kernel
theorem dMod_init_28 : decode uMod_init.2.1 28 = .ok (.newarray .int, 2) := by decide +kernel
theorem dMod_init_30 : decode uMod_init.2.1 30 = .ok (.putfield 19, 3) := by decide +kernel
theorem dMod_init_33 : decode uMod_init.2.1 33 = .ok (.aload_n 0, 1) := by decide +kernel
theorem dMod_init_34 : decode uMod_init.2.1 34 = .ok (.bipush 96, 2) := by decide +kernel
theorem dMod_init_36 : decode uMod_init.2.1 36 = .ok (.newarray .int, 2) := by decide +kernel
theorem dMod_init_38 : decode uMod_init.2.1 38 = .ok (.putfield 22, 3) := by decide +kernel
theorem dMod_init_41 : decode uMod_init.2.1 41 = .ok (.aload_n 0, 1) := by decide +kernel
theorem dMod_init_42 : decode uMod_init.2.1 42 = .ok (.bipush 96, 2) := by decide +kernel
theorem dMod_init_44 : decode uMod_init.2.1 44 = .ok (.newarray .int, 2) := by decide +kernel
theorem dMod_init_46 : decode uMod_init.2.1 46 = .ok (.putfield 25, 3) := by decide +kernel
theorem dMod_init_49 : decode uMod_init.2.1 49 = .ok (.aload_n 0, 1) := by decide +kernel
theorem dMod_init_50 : decode uMod_init.2.1 50 = .ok (.bipush 96, 2) := by decide +kernel
theorem dMod_init_52 : decode uMod_init.2.1 52 = .ok (.newarray .boolean, 2) := by decide +kernel
theorem dMod_init_54 : decode uMod_init.2.1 54 = .ok (.putfield 28, 3) := by decide +kernel
theorem dMod_init_57 : decode uMod_init.2.1 57 = .ok (.aload_n 0, 1) := by decide +kernel
theorem dMod_init_58 : decode uMod_init.2.1 58 = .ok (.bipush 96, 2) := by decide +kernel
theorem dMod_init_60 : decode uMod_init.2.1 60 = .ok (.newarray .int, 2) := by decide +kernel
theorem dMod_init_62 : decode uMod_init.2.1 62 = .ok (.putfield 32, 3) := by decide +kernel
theorem dMod_init_65 : decode uMod_init.2.1 65 = .ok (.aload_n 0, 1) := by decide +kernel
theorem dMod_init_66 : decode uMod_init.2.1 66 = .ok (.bipush 96, 2) := by decide +kernel
theorem dMod_init_68 : decode uMod_init.2.1 68 = .ok (.newarray .long, 2) := by decide +kernel
theorem dMod_init_70 : decode uMod_init.2.1 70 = .ok (.putfield 35, 3) := by decide +kernel
theorem dMod_init_73 : decode uMod_init.2.1 73 = .ok (.aload_n 0, 1) := by decide +kernel
theorem dMod_init_74 : decode uMod_init.2.1 74 = .ok (.sipush 768, 3) := by decide +kernel
theorem dMod_init_77 : decode uMod_init.2.1 77 = .ok (.newarray .int, 2) := by decide +kernel
theorem dMod_init_79 : decode uMod_init.2.1 79 = .ok (.putfield 39, 3) := by decide +kernel
theorem dMod_init_82 : decode uMod_init.2.1 82 = .ok (.aload_n 0, 1) := by decide +kernel
theorem dMod_init_83 : decode uMod_init.2.1 83 = .ok (.sipush 768, 3) := by decide +kernel
theorem dMod_init_86 : decode uMod_init.2.1 86 = .ok (.newarray .int, 2) := by decide +kernel
theorem dMod_init_88 : decode uMod_init.2.1 88 = .ok (.putfield 42, 3) := by decide +kernel
theorem dMod_init_91 : decode uMod_init.2.1 91 = .ok (.aload_n 0, 1) := by decide +kernel
theorem dMod_init_92 : decode uMod_init.2.1 92 = .ok (.sipush 768, 3) := by decide +kernel
theorem dMod_init_95 : decode uMod_init.2.1 95 = .ok (.newarray .int, 2) := by decide +kernel
theorem dMod_init_97 : decode uMod_init.2.1 97 = .ok (.putfield 45, 3) := by decide +kernel
theorem dMod_init_100 : decode uMod_init.2.1 100 = .ok (.aload_n 0, 1) := by decide +kernel
theorem dMod_init_101 : decode uMod_init.2.1 101 = .ok (.sipush 768, 3) := by decide +kernel
theorem dMod_init_104 : decode uMod_init.2.1 104 = .ok (.newarray .int, 2) := by decide +kernel
theorem dMod_init_106 : decode uMod_init.2.1 106 = .ok (.putfield 48, 3) := by decide +kernel
theorem dMod_init_109 : decode uMod_init.2.1 109 = .ok (.aload_n 0, 1) := by decide +kernel
theorem dMod_init_110 : decode uMod_init.2.1 110 = .ok (.bipush 24, 2) := by decide +kernel
theorem dMod_init_112 : decode uMod_init.2.1 112 = .ok (.newarray .boolean, 2) := by decide +kernel
theorem dMod_init_114 : decode uMod_init.2.1 114 = .ok (.putfield 51, 3) := by decide +kernel
theorem dMod_init_117 : decode uMod_init.2.1 117 = .ok (.aload_n 0, 1) := by decide +kernel
theorem dMod_init_118 : decode uMod_init.2.1 118 = .ok (.bipush 24, 2) := by decide +kernel
theorem dMod_init_120 : decode uMod_init.2.1 120 = .ok (.newarray .boolean, 2) := by decide +kernel
theorem dMod_init_122 : decode uMod_init.2.1 122 = .ok (.putfield 54, 3) := by decide +kernel
theorem dMod_init_125 : decode uMod_init.2.1 125 = .ok (.aload_n 0, 1) := by decide +kernel
theorem dMod_init_126 : decode uMod_init.2.1 126 = .ok (.bipush 24, 2) := by decide +kernel
theorem dMod_init_128 : decode uMod_init.2.1 128 = .ok (.newarray .boolean, 2) := by decide +kernel
theorem dMod_init_130 : decode uMod_init.2.1 130 = .ok (.putfield 57, 3) := by decide +kernel
theorem dMod_init_133 : decode uMod_init.2.1 133 = .ok (.aload_n 0, 1) := by decide +kernel
theorem dMod_init_134 : decode uMod_init.2.1 134 = .ok (.bipush 24, 2) := by decide +kernel
theorem dMod_init_136 : decode uMod_init.2.1 136 = .ok (.newarray .boolean, 2) := by decide +kernel
theorem dMod_init_138 : decode uMod_init.2.1 138 = .ok (.putfield 60, 3) := by decide +kernel
theorem dMod_init_141 : decode uMod_init.2.1 141 = .ok (.aload_n 0, 1) := by decide +kernel
theorem dMod_init_142 : decode uMod_init.2.1 142 = .ok (.bipush 24, 2) := by decide +kernel
theorem dMod_init_144 : decode uMod_init.2.1 144 = .ok (.newarray .boolean, 2) := by decide +kernel
theorem dMod_init_146 : decode uMod_init.2.1 146 = .ok (.putfield 63, 3) := by decide +kernel
theorem dMod_init_149 : decode uMod_init.2.1 149 = .ok (.aload_n 0, 1) := by decide +kernel
theorem dMod_init_150 : decode uMod_init.2.1 150 = .ok (.bipush 24, 2) := by decide +kernel
theorem dMod_init_152 : decode uMod_init.2.1 152 = .ok (.newarray .boolean, 2) := by decide +kernel
theorem dMod_init_154 : decode uMod_init.2.1 154 = .ok (.putfield 66, 3) := by decide +kernel
theorem dMod_init_157 : decode uMod_init.2.1 157 = .ok (.aload_n 0, 1) := by decide +kernel
theorem dMod_init_158 : decode uMod_init.2.1 158 = .ok (.bipush 24, 2) := by decide +kernel
theorem dMod_init_160 : decode uMod_init.2.1 160 = .ok (.newarray .boolean, 2) := by decide +kernel
theorem dMod_init_162 : decode uMod_init.2.1 162 = .ok (.putfield 69, 3) := by decide +kernel
theorem dMod_init_165 : decode uMod_init.2.1 165 = .ok (.aload_n 0, 1) := by decide +kernel
theorem dMod_init_166 : decode uMod_init.2.1 166 = .ok (.bipush 24, 2) := by decide +kernel
theorem dMod_init_168 : decode uMod_init.2.1 168 = .ok (.newarray .int, 2) := by decide +kernel
theorem dMod_init_170 : decode uMod_init.2.1 170 = .ok (.putfield 72, 3) := by decide +kernel
theorem dMod_init_173 : decode uMod_init.2.1 173 = .ok (.aload_n 0, 1) := by decide +kernel
theorem dMod_init_174 : decode uMod_init.2.1 174 = .ok (.bipush 24, 2) := by decide +kernel
theorem dMod_init_176 : decode uMod_init.2.1 176 = .ok (.newarray .int, 2) := by decide +kernel
theorem dMod_init_178 : decode uMod_init.2.1 178 = .ok (.putfield 75, 3) := by decide +kernel
theorem dMod_init_181 : decode uMod_init.2.1 181 = .ok (.aload_n 0, 1) := by decide +kernel
theorem dMod_init_182 : decode uMod_init.2.1 182 = .ok (.bipush 24, 2) := by decide +kernel
theorem dMod_init_184 : decode uMod_init.2.1 184 = .ok (.newarray .int, 2) := by decide +kernel
theorem dMod_init_186 : decode uMod_init.2.1 186 = .ok (.putfield 78, 3) := by decide +kernel
theorem dMod_init_189 : decode uMod_init.2.1 189 = .ok (.aload_n 0, 1) := by decide +kernel
theorem dMod_init_190 : decode uMod_init.2.1 190 = .ok (.bipush 24, 2) := by decide +kernel
theorem dMod_init_192 : decode uMod_init.2.1 192 = .ok (.newarray .int, 2) := by decide +kernel
theorem dMod_init_194 : decode uMod_init.2.1 194 = .ok (.putfield 81, 3) := by decide +kernel
theorem dMod_init_197 : decode uMod_init.2.1 197 = .ok (.aload_n 0, 1) := by decide +kernel
theorem dMod_init_198 : decode uMod_init.2.1 198 = .ok (.bipush 24, 2) := by decide +kernel
theorem dMod_init_200 : decode uMod_init.2.1 200 = .ok (.newarray .int, 2) := by decide +kernel
theorem dMod_init_202 : decode uMod_init.2.1 202 = .ok (.putfield 84, 3) := by decide +kernel
theorem dMod_init_205 : decode uMod_init.2.1 205 = .ok (.aload_n 0, 1) := by decide +kernel
theorem dMod_init_206 : decode uMod_init.2.1 206 = .ok (.sipush 144, 3) := by decide +kernel
theorem dMod_init_209 : decode uMod_init.2.1 209 = .ok (.newarray .int, 2) := by decide +kernel
theorem dMod_init_211 : decode uMod_init.2.1 211 = .ok (.putfield 87, 3) := by decide +kernel
theorem dMod_init_214 : decode uMod_init.2.1 214 = .ok (.aload_n 0, 1) := by decide +kernel
theorem dMod_init_215 : decode uMod_init.2.1 215 = .ok (.sipush 144, 3) := by decide +kernel
theorem dMod_init_218 : decode uMod_init.2.1 218 = .ok (.newarray .int, 2) := by decide +kernel
theorem dMod_init_220 : decode uMod_init.2.1 220 = .ok (.putfield 90, 3) := by decide +kernel
theorem dMod_init_223 : decode uMod_init.2.1 223 = .ok (.aload_n 0, 1) := by decide +kernel
theorem dMod_init_224 : decode uMod_init.2.1 224 = .ok (.bipush 24, 2) := by decide +kernel
theorem dMod_init_226 : decode uMod_init.2.1 226 = .ok (.newarray .int, 2) := by decide +kernel
theorem dMod_init_228 : decode uMod_init.2.1 228 = .ok (.putfield 93, 3) := by decide +kernel
theorem dMod_init_231 : decode uMod_init.2.1 231 = .ok (.aload_n 0, 1) := by decide +kernel
theorem dMod_init_232 : decode uMod_init.2.1 232 = .ok (.sipush 768, 3) := by decide +kernel
theorem dMod_init_235 : decode uMod_init.2.1 235 = .ok (.newarray .int, 2) := by decide +kernel
theorem dMod_init_237 : decode uMod_init.2.1 237 = .ok (.putfield 96, 3) := by decide +kernel
theorem dMod_init_240 : decode uMod_init.2.1 240 = .ok (.aload_n 0, 1) := by decide +kernel
theorem dMod_init_241 : decode uMod_init.2.1 241 = .ok (.iconst 2, 1) := by decide +kernel
theorem dMod_init_242 : decode uMod_init.2.1 242 = .ok (.newarray .int, 2) := by decide +kernel
theorem dMod_init_244 : decode uMod_init.2.1 244 = .ok (.putfield 99, 3) := by decide +kernel
theorem dMod_init_247 : decode uMod_init.2.1 247 = .ok (.aload_n 0, 1) := by decide +kernel
theorem dMod_init_248 : decode uMod_init.2.1 248 = .ok (.bipush 80, 2) := by decide +kernel
theorem dMod_init_250 : decode uMod_init.2.1 250 = .ok (.newarray .int, 2) := by decide +kernel
theorem dMod_init_252 : decode uMod_init.2.1 252 = .ok (.putfield 102, 3) := by decide +kernel
theorem dMod_init_255 : decode uMod_init.2.1 255 = .ok (.aload_n 0, 1) := by decide +kernel
theorem dMod_init_256 : decode uMod_init.2.1 256 = .ok (.bipush 80, 2) := by decide +kernel
theorem dMod_init_258 : decode uMod_init.2.1 258 = .ok (.newarray .int, 2) := by decide +kernel
theorem dMod_init_260 : decode uMod_init.2.1 260 = .ok (.putfield 105, 3) := by decide +kernel
theorem dMod_init_263 : decode uMod_init.2.1 263 = .ok (.aload_n 0, 1) := by decide +kernel
theorem dMod_init_264 : decode uMod_init.2.1 264 = .ok (.iconst 2, 1) := by decide +kernel
theorem dMod_init_265 : decode uMod_init.2.1 265 = .ok (.newarray .int, 2) := by decide +kernel
theorem dMod_init_267 : decode uMod_init.2.1 267 = .ok (.putfield 108, 3) := by decide +kernel
theorem dMod_init_270 : decode uMod_init.2.1 270 = .ok (.aload_n 0, 1) := by decide +kernel
theorem dMod_init_271 : decode uMod_init.2.1 271 = .ok (.iconst 2, 1) := by decide +kernel
theorem dMod_init_272 : decode uMod_init.2.1 272 = .ok (.newarray .int, 2) := by decide +kernel
theorem dMod_init_274 : decode uMod_init.2.1 274 = .ok (.putfield 111, 3) := by decide +kernel
theorem dMod_init_277 : decode uMod_init.2.1 277 = .ok (.aload_n 0, 1) := by decide +kernel
theorem dMod_init_278 : decode uMod_init.2.1 278 = .ok (.iconst 2, 1) := by decide +kernel
theorem dMod_init_279 : decode uMod_init.2.1 279 = .ok (.newarray .int, 2) := by decide +kernel
theorem dMod_init_281 : decode uMod_init.2.1 281 = .ok (.putfield 114, 3) := by decide +kernel
theorem dMod_init_284 : decode uMod_init.2.1 284 = .ok (.aload_n 0, 1) := by decide +kernel
theorem dMod_init_285 : decode uMod_init.2.1 285 = .ok (.bipush 6, 2) := by decide +kernel
theorem dMod_init_287 : decode uMod_init.2.1 287 = .ok (.newarray .int, 2) := by decide +kernel
theorem dMod_init_289 : decode uMod_init.2.1 289 = .ok (.putfield 117, 3) := by decide +kernel
theorem dMod_init_292 : decode uMod_init.2.1 292 = .ok (.aload_n 0, 1) := by decide +kernel
theorem dMod_init_293 : decode uMod_init.2.1 293 = .ok (.bipush 6, 2) := by decide +kernel
theorem dMod_init_295 : decode uMod_init.2.1 295 = .ok (.newarray .int, 2) := by decide +kernel
theorem dMod_init_297 : decode uMod_init.2.1 297 = .ok (.putfield 120, 3) := by decide +kernel
theorem dMod_init_300 : decode uMod_init.2.1 300 = .ok (.aload_n 0, 1) := by decide +kernel
theorem dMod_init_301 : decode uMod_init.2.1 301 = .ok (.iconst 2, 1) := by decide +kernel
theorem dMod_init_302 : decode uMod_init.2.1 302 = .ok (.newarray .boolean, 2) := by decide +kernel
theorem dMod_init_304 : decode uMod_init.2.1 304 = .ok (.putfield 123, 3) := by decide +kernel
theorem dMod_init_307 : decode uMod_init.2.1 307 = .ok (.aload_n 0, 1) := by decide +kernel
theorem dMod_init_308 : decode uMod_init.2.1 308 = .ok (.iconst 2, 1) := by decide +kernel
theorem dMod_init_309 : decode uMod_init.2.1 309 = .ok (.newarray .int, 2) := by decide +kernel
theorem dMod_init_311 : decode uMod_init.2.1 311 = .ok (.putfield 126, 3) := by decide +kernel
theorem dMod_init_314 : decode uMod_init.2.1 314 = .ok (.aload_n 0, 1) := by decide +kernel
theorem dMod_init_315 : decode uMod_init.2.1 315 = .ok (.iconst 2, 1) := by decide +kernel
theorem dMod_init_316 : decode uMod_init.2.1 316 = .ok (.newarray .boolean, 2) := by decide +kernel
theorem dMod_init_318 : decode uMod_init.2.1 318 = .ok (.putfield 129, 3) := by decide +kernel
theorem dMod_init_321 : decode uMod_init.2.1 321 = .ok (.aload_n 0, 1) := by decide +kernel
theorem dMod_init_322 : decode uMod_init.2.1 322 = .ok (.iconst 2, 1) := by decide +kernel
theorem dMod_init_323 : decode uMod_init.2.1 323 = .ok (.newarray .int, 2) := by decide +kernel
theorem dMod_init_325 : decode uMod_init.2.1 325 = .ok (.putfield 132, 3) := by decide +kernel
theorem dMod_init_328 : decode uMod_init.2.1 328 = .ok (.aload_n 0, 1) := by decide +kernel
theorem dMod_init_329 : decode uMod_init.2.1 329 = .ok (.bipush 16, 2) := by decide +kernel
theorem dMod_init_331 : decode uMod_init.2.1 331 = .ok (.newarray .int, 2) := by decide +kernel
theorem dMod_init_333 : decode uMod_init.2.1 333 = .ok (.putfield 135, 3) := by decide +kernel
theorem dMod_init_336 : decode uMod_init.2.1 336 = .ok (.aload_n 0, 1) := by decide +kernel
theorem dMod_init_337 : decode uMod_init.2.1 337 = .ok (.bipush 16, 2) := by decide +kernel
theorem dMod_init_339 : decode uMod_init.2.1 339 = .ok (.newarray .int, 2) := by decide +kernel
theorem dMod_init_341 : decode uMod_init.2.1 341 = .ok (.putfield 138, 3) := by decide +kernel
theorem dMod_init_344 : decode uMod_init.2.1 344 = .ok (.aload_n 0, 1) := by decide +kernel
theorem dMod_init_345 : decode uMod_init.2.1 345 = .ok (.iconst 4, 1) := by decide +kernel
theorem dMod_init_346 : decode uMod_init.2.1 346 = .ok (.newarray .int, 2) := by decide +kernel
theorem dMod_init_348 : decode uMod_init.2.1 348 = .ok (.putfield 141, 3) := by decide +kernel
theorem dMod_init_351 : decode uMod_init.2.1 351 = .ok (.aload_n 0, 1) := by decide +kernel
theorem dMod_init_352 : decode uMod_init.2.1 352 = .ok (.iconst 4, 1) := by decide +kernel
theorem dMod_init_353 : decode uMod_init.2.1 353 = .ok (.newarray .int, 2) := by decide +kernel
theorem dMod_init_355 : decode uMod_init.2.1 355 = .ok (.putfield 144, 3) := by decide +kernel
theorem dMod_init_358 : decode uMod_init.2.1 358 = .ok (.aload_n 0, 1) := by decide +kernel
theorem dMod_init_359 : decode uMod_init.2.1 359 = .ok (.bipush 24, 2) := by decide +kernel
theorem dMod_init_361 : decode uMod_init.2.1 361 = .ok (.newarray .int, 2) := by decide +kernel
theorem dMod_init_363 : decode uMod_init.2.1 363 = .ok (.putfield 147, 3) := by decide +kernel
theorem dMod_init_366 : decode uMod_init.2.1 366 = .ok (.aload_n 0, 1) := by decide +kernel
theorem dMod_init_367 : decode uMod_init.2.1 367 = .ok (.bipush 24, 2) := by decide +kernel
theorem dMod_init_369 : decode uMod_init.2.1 369 = .ok (.newarray .int, 2) := by decide +kernel
theorem dMod_init_371 : decode uMod_init.2.1 371 = .ok (.putfield 150, 3) := by decide +kernel
theorem dMod_init_374 : decode uMod_init.2.1 374 = .ok (.aload_n 0, 1) := by decide +kernel
theorem dMod_init_375 : decode uMod_init.2.1 375 = .ok (.iconst 2, 1) := by decide +kernel
theorem dMod_init_376 : decode uMod_init.2.1 376 = .ok (.newarray .int, 2) := by decide +kernel
theorem dMod_init_378 : decode uMod_init.2.1 378 = .ok (.putfield 153, 3) := by decide +kernel
theorem dMod_init_381 : decode uMod_init.2.1 381 = .ok (.aload_n 0, 1) := by decide +kernel
theorem dMod_init_382 : decode uMod_init.2.1 382 = .ok (.bipush 12, 2) := by decide +kernel
theorem dMod_init_384 : decode uMod_init.2.1 384 = .ok (.newarray .int, 2) := by decide +kernel
theorem dMod_init_386 : decode uMod_init.2.1 386 = .ok (.putfield 156, 3) := by decide +kernel
theorem dMod_init_389 : decode uMod_init.2.1 389 = .ok (.aload_n 0, 1) := by decide +kernel
theorem dMod_init_390 : decode uMod_init.2.1 390 = .ok (.bipush 12, 2) := by decide +kernel
theorem dMod_init_392 : decode uMod_init.2.1 392 = .ok (.newarray .int, 2) := by decide +kernel
theorem dMod_init_394 : decode uMod_init.2.1 394 = .ok (.putfield 159, 3) := by decide +kernel
theorem dMod_init_397 : decode uMod_init.2.1 397 = .ok (.aload_n 0, 1) := by decide +kernel
theorem dMod_init_398 : decode uMod_init.2.1 398 = .ok (.bipush 12, 2) := by decide +kernel
theorem dMod_init_400 : decode uMod_init.2.1 400 = .ok (.newarray .boolean, 2) := by decide +kernel
theorem dMod_init_402 : decode uMod_init.2.1 402 = .ok (.putfield 162, 3) := by decide +kernel
theorem dMod_init_405 : decode uMod_init.2.1 405 = .ok (.aload_n 0, 1) := by decide +kernel
theorem dMod_init_406 : decode uMod_init.2.1 406 = .ok (.bipush 8, 2) := by decide +kernel
theorem dMod_init_408 : decode uMod_init.2.1 408 = .ok (.newarray .int, 2) := by decide +kernel
theorem dMod_init_410 : decode uMod_init.2.1 410 = .ok (.putfield 165, 3) := by decide +kernel
theorem dMod_init_413 : decode uMod_init.2.1 413 = .ok (.aload_n 0, 1) := by decide +kernel
theorem dMod_init_414 : decode uMod_init.2.1 414 = .ok (.bipush 8, 2) := by decide +kernel
theorem dMod_init_416 : decode uMod_init.2.1 416 = .ok (.newarray .int, 2) := by decide +kernel
theorem dMod_init_418 : decode uMod_init.2.1 418 = .ok (.putfield 168, 3) := by decide +kernel
theorem dMod_init_421 : decode uMod_init.2.1 421 = .ok (.iconst 0, 1) := by decide +kernel
theorem dMod_init_422 : decode uMod_init.2.1 422 = .ok (.istore_n 1, 1) := by decide +kernel
theorem dMod_init_423 : decode uMod_init.2.1 423 = .ok (.iload_n 1, 1) := by decide +kernel
theorem dMod_init_424 : decode uMod_init.2.1 424 = .ok (.iconst 2, 1) := by decide +kernel
theorem dMod_init_425 : decode uMod_init.2.1 425 = .ok (.if_icmp .ge 106, 3) := by decide +kernel
theorem dMod_init_428 : decode uMod_init.2.1 428 = .ok (.aload_n 0, 1) := by decide +kernel
theorem dMod_init_429 : decode uMod_init.2.1 429 = .ok (.getfield 117, 3) := by decide +kernel
theorem dMod_init_432 : decode uMod_init.2.1 432 = .ok (.iconst 3, 1) := by decide +kernel
theorem dMod_init_433 : decode uMod_init.2.1 433 = .ok (.iload_n 1, 1) := by decide +kernel
theorem dMod_init_434 : decode uMod_init.2.1 434 = .ok (.imul, 1) := by decide +kernel
theorem dMod_init_435 : decode uMod_init.2.1 435 = .ok (.bipush 100, 2) := by decide +kernel
theorem dMod_init_437 : decode uMod_init.2.1 437 = .ok (.iastore, 1) := by decide +kernel
theorem dMod_init_438 : decode uMod_init.2.1 438 = .ok (.aload_n 0, 1) := by decide +kernel
theorem dMod_init_439 : decode uMod_init.2.1 439 = .ok (.getfield 117, 3) := by decide +kernel
theorem dMod_init_442 : decode uMod_init.2.1 442 = .ok (.iconst 3, 1) := by decide +kernel
theorem dMod_init_443 : decode uMod_init.2.1 443 = .ok (.iload_n 1, 1) := by decide +kernel
theorem dMod_init_444 : decode uMod_init.2.1 444 = .ok (.imul, 1) := by decide +kernel
theorem dMod_init_445 : decode uMod_init.2.1 445 = .ok (.iconst 1, 1) := by decide +kernel
theorem dMod_init_446 : decode uMod_init.2.1 446 = .ok (.iadd, 1) := by decide +kernel
theorem dMod_init_447 : decode uMod_init.2.1 447 = .ok (.bipush 12, 2) := by decide +kernel
theorem dMod_init_449 : decode uMod_init.2.1 449 = .ok (.iastore, 1) := by decide +kernel
theorem dMod_init_450 : decode uMod_init.2.1 450 = .ok (.aload_n 0, 1) := by decide +kernel
theorem dMod_init_451 : decode uMod_init.2.1 451 = .ok (.getfield 117, 3) := by decide +kernel
theorem dMod_init_454 : decode uMod_init.2.1 454 = .ok (.iconst 3, 1) := by decide +kernel
theorem dMod_init_455 : decode uMod_init.2.1 455 = .ok (.iload_n 1, 1) := by decide +kernel
theorem dMod_init_456 : decode uMod_init.2.1 456 = .ok (.imul, 1) := by decide +kernel
theorem dMod_init_457 : decode uMod_init.2.1 457 = .ok (.iconst 2, 1) := by decide +kernel
theorem dMod_init_458 : decode uMod_init.2.1 458 = .ok (.iadd, 1) := by decide +kernel
theorem dMod_init_459 : decode uMod_init.2.1 459 = .ok (.bipush 16, 2) := by decide +kernel
theorem dMod_init_461 : decode uMod_init.2.1 461 = .ok (.iastore, 1) := by decide +kernel
theorem dMod_init_462 : decode uMod_init.2.1 462 = .ok (.aload_n 0, 1) := by decide +kernel
theorem dMod_init_463 : decode uMod_init.2.1 463 = .ok (.getfield 120, 3) := by decide +kernel
theorem dMod_init_466 : decode uMod_init.2.1 466 = .ok (.iconst 3, 1) := by decide +kernel
theorem dMod_init_467 : decode uMod_init.2.1 467 = .ok (.iload_n 1, 1) := by decide +kernel
theorem dMod_init_468 : decode uMod_init.2.1 468 = .ok (.imul, 1) := by decide +kernel
theorem dMod_init_469 : decode uMod_init.2.1 469 = .ok (.bipush 100, 2) := by decide +kernel
theorem dMod_init_471 : decode uMod_init.2.1 471 = .ok (.iastore, 1) := by decide +kernel
theorem dMod_init_472 : decode uMod_init.2.1 472 = .ok (.aload_n 0, 1) := by decide +kernel
theorem dMod_init_473 : decode uMod_init.2.1 473 = .ok (.getfield 120, 3) := by decide +kernel
theorem dMod_init_476 : decode uMod_init.2.1 476 = .ok (.iconst 3, 1) := by decide +kernel
theorem dMod_init_477 : decode uMod_init.2.1 477 = .ok (.iload_n 1, 1) := by decide +kernel
theorem dMod_init_478 : decode uMod_init.2.1 478 = .ok (.imul, 1) := by decide +kernel
theorem dMod_init_479 : decode uMod_init.2.1 479 = .ok (.iconst 1, 1) := by decide +kernel
theorem dMod_init_480 : decode uMod_init.2.1 480 = .ok (.iadd, 1) := by decide +kernel
theorem dMod_init_481 : decode uMod_init.2.1 481 = .ok (.bipush 12, 2) := by decide +kernel
theorem dMod_init_483 : decode uMod_init.2.1 483 = .ok (.iastore, 1) := by decide +kernel
theorem dMod_init_484 : decode uMod_init.2.1 484 = .ok (.aload_n 0, 1) := by decide +kernel
theorem dMod_init_485 : decode uMod_init.2.1 485 = .ok (.getfield 120, 3) := by decide +kernel
theorem dMod_init_488 : decode uMod_init.2.1 488 = .ok (.iconst 3, 1) := by decide +kernel
theorem dMod_init_489 : decode uMod_init.2.1 489 = .ok (.iload_n 1, 1) := by decide +kernel
theorem dMod_init_490 : decode uMod_init.2.1 490 = .ok (.imul, 1) := by decide +kernel
theorem dMod_init_491 : decode uMod_init.2.1 491 = .ok (.iconst 2, 1) := by decide +kernel
theorem dMod_init_492 : decode uMod_init.2.1 492 = .ok (.iadd, 1) := by decide +kernel
theorem dMod_init_493 : decode uMod_init.2.1 493 = .ok (.bipush 16, 2) := by decide +kernel
theorem dMod_init_495 : decode uMod_init.2.1 495 = .ok (.iastore, 1) := by decide +kernel
theorem dMod_init_496 : decode uMod_init.2.1 496 = .ok (.aload_n 0, 1) := by decide +kernel
theorem dMod_init_497 : decode uMod_init.2.1 497 = .ok (.getfield 114, 3) := by decide +kernel
theorem dMod_init_500 : decode uMod_init.2.1 500 = .ok (.iload_n 1, 1) := by decide +kernel
theorem dMod_init_501 : decode uMod_init.2.1 501 = .ok (.iconst (-1), 1) := by decide +kernel
theorem dMod_init_502 : decode uMod_init.2.1 502 = .ok (.iastore, 1) := by decide +kernel
theorem dMod_init_503 : decode uMod_init.2.1 503 = .ok (.aload_n 0, 1) := by decide +kernel
theorem dMod_init_504 : decode uMod_init.2.1 504 = .ok (.getfield 141, 3) := by decide +kernel
theorem dMod_init_507 : decode uMod_init.2.1 507 = .ok (.iconst 2, 1) := by decide +kernel
theorem dMod_init_508 : decode uMod_init.2.1 508 = .ok (.iload_n 1, 1) := by decide +kernel
theorem dMod_init_509 : decode uMod_init.2.1 509 = .ok (.imul, 1) := by decide +kernel
theorem dMod_init_510 : decode uMod_init.2.1 510 = .ok (.bipush 100, 2) := by decide +kernel
theorem dMod_init_512 : decode uMod_init.2.1 512 = .ok (.iastore, 1) := by decide +kernel
theorem dMod_init_513 : decode uMod_init.2.1 513 = .ok (.aload_n 0, 1) := by decide +kernel
theorem dMod_init_514 : decode uMod_init.2.1 514 = .ok (.getfield 141, 3) := by decide +kernel
theorem dMod_init_517 : decode uMod_init.2.1 517 = .ok (.iconst 2, 1) := by decide +kernel
theorem dMod_init_518 : decode uMod_init.2.1 518 = .ok (.iload_n 1, 1) := by decide +kernel
theorem dMod_init_519 : decode uMod_init.2.1 519 = .ok (.imul, 1) := by decide +kernel
theorem dMod_init_520 : decode uMod_init.2.1 520 = .ok (.iconst 1, 1) := by decide +kernel
theorem dMod_init_521 : decode uMod_init.2.1 521 = .ok (.iadd, 1) := by decide +kernel
theorem dMod_init_522 : decode uMod_init.2.1 522 = .ok (.bipush 100, 2) := by decide +kernel
theorem dMod_init_524 : decode uMod_init.2.1 524 = .ok (.iastore, 1) := by decide +kernel
theorem dMod_init_525 : decode uMod_init.2.1 525 = .ok (.iinc 1 1, 3) := by decide +kernel
theorem dMod_init_528 : decode uMod_init.2.1 528 = .ok (.goto (-105), 3) := by decide +kernel
theorem dMod_init_531 : decode uMod_init.2.1 531 = .ok (.return_, 1) := by decide +kernel
theorem cfw_Mod : ∀ k, k < 56 → u_lay "InterleavedLinkModel" T_Mod k ∈ gW
  | 0, _ => gW_in 917 (by decide +kernel) rfl
  | 1, _ => gW_in 919 (by decide +kernel) rfl
  | 2, _ => gW_in 921 (by decide +kernel) rfl
  | 3, _ => gW_in 923 (by decide +kernel) rfl
  | 4, _ => gW_in 925 (by decide +kernel) rfl
  | 5, _ => gW_in 927 (by decide +kernel) rfl
  | 6, _ => gW_in 929 (by decide +kernel) rfl
  | 7, _ => gW_in 931 (by decide +kernel) rfl
  | 8, _ => gW_in 933 (by decide +kernel) rfl
  | 9, _ => gW_in 935 (by decide +kernel) rfl
  | 10, _ => gW_in 937 (by decide +kernel) rfl
  | 11, _ => gW_in 939 (by decide +kernel) rfl
  | 12, _ => gW_in 941 (by decide +kernel) rfl
  | 13, _ => gW_in 943 (by decide +kernel) rfl
  | 14, _ => gW_in 945 (by decide +kernel) rfl
  | 15, _ => gW_in 947 (by decide +kernel) rfl
  | 16, _ => gW_in 949 (by decide +kernel) rfl
  | 17, _ => gW_in 951 (by decide +kernel) rfl
  | 18, _ => gW_in 953 (by decide +kernel) rfl
  | 19, _ => gW_in 955 (by decide +kernel) rfl
  | 20, _ => gW_in 957 (by decide +kernel) rfl
  | 21, _ => gW_in 959 (by decide +kernel) rfl
  | 22, _ => gW_in 961 (by decide +kernel) rfl
  | 23, _ => gW_in 963 (by decide +kernel) rfl
  | 24, _ => gW_in 965 (by decide +kernel) rfl
  | 25, _ => gW_in 967 (by decide +kernel) rfl
  | 26, _ => gW_in 969 (by decide +kernel) rfl
  | 27, _ => gW_in 971 (by decide +kernel) rfl
  | 28, _ => gW_in 973 (by decide +kernel) rfl
  | 29, _ => gW_in 975 (by decide +kernel) rfl
  | 30, _ => gW_in 977 (by decide +kernel) rfl
  | 31, _ => gW_in 979 (by decide +kernel) rfl
  | 32, _ => gW_in 981 (by decide +kernel) rfl
  | 33, _ => gW_in 983 (by decide +kernel) rfl
  | 34, _ => gW_in 985 (by decide +kernel) rfl
  | 35, _ => gW_in 987 (by decide +kernel) rfl
  | 36, _ => gW_in 989 (by decide +kernel) rfl
  | 37, _ => gW_in 991 (by decide +kernel) rfl
  | 38, _ => gW_in 993 (by decide +kernel) rfl
  | 39, _ => gW_in 995 (by decide +kernel) rfl
  | 40, _ => gW_in 997 (by decide +kernel) rfl
  | 41, _ => gW_in 999 (by decide +kernel) rfl
  | 42, _ => gW_in 1001 (by decide +kernel) rfl
  | 43, _ => gW_in 1003 (by decide +kernel) rfl
  | 44, _ => gW_in 1005 (by decide +kernel) rfl
  | 45, _ => gW_in 1007 (by decide +kernel) rfl
  | 46, _ => gW_in 1009 (by decide +kernel) rfl
  | 47, _ => gW_in 1011 (by decide +kernel) rfl
  | 48, _ => gW_in 1013 (by decide +kernel) rfl
  | 49, _ => gW_in 1015 (by decide +kernel) rfl
  | 50, _ => gW_in 1017 (by decide +kernel) rfl
  | 51, _ => gW_in 1019 (by decide +kernel) rfl
  | 52, _ => gW_in 1021 (by decide +kernel) rfl
  | 53, _ => gW_in 1023 (by decide +kernel) rfl
  | 54, _ => gW_in 1025 (by decide +kernel) rfl
  | 55, _ => gW_in 1027 (by decide +kernel) rfl
  | (_ + 56), h => absurd h (by omega)
theorem cf_Mod : cF 10 "InterleavedLinkModel" T_Mod 56 := ⟨by decide, rfl, fun w hw => by
  obtain ⟨k, hk, rfl⟩ := List.mem_map.mp hw
  exact cfw_Mod k (List.mem_range.mp hk), by decide +kernel, ty_Mod, by decide +kernel⟩
theorem fs_Mod_117 : fS "InterleavedLinkModel" 117 10 36 := ⟨"InterleavedLinkModel", T_Mod, 56, cf_Mod, by decide, Or.inl (gW_in 897 (by decide +kernel) rfl)⟩
theorem fs_Mod_120 : fS "InterleavedLinkModel" 120 10 37 := ⟨"InterleavedLinkModel", T_Mod, 56, cf_Mod, by decide, Or.inl (gW_in 898 (by decide +kernel) rfl)⟩
theorem fs_Mod_114 : fS "InterleavedLinkModel" 114 10 34 := ⟨"InterleavedLinkModel", T_Mod, 56, cf_Mod, by decide, Or.inl (gW_in 895 (by decide +kernel) rfl)⟩
theorem fs_Mod_141 : fS "InterleavedLinkModel" 141 10 44 := ⟨"InterleavedLinkModel", T_Mod, 56, cf_Mod, by decide, Or.inl (gW_in 905 (by decide +kernel) rfl)⟩
theorem oi_Mod_1 : Cond.methodLink "InterleavedLinkModel" 1 Lib.objectInit ∈ gW := gW_in 860 (by decide +kernel) rfl
theorem ps_Mod_7 : pS "InterleavedLinkModel" "<init>" 7 10 0 (.array .int) := ⟨"InterleavedLinkModel", T_Mod, 56, cf_Mod, by decide, by decide +kernel, Or.inr ⟨rfl, rfl, rfl, (gW_in 861 (by decide +kernel) rfl)⟩⟩
theorem ps_Mod_13 : pS "InterleavedLinkModel" "<init>" 13 10 1 (.array .int) := ⟨"InterleavedLinkModel", T_Mod, 56, cf_Mod, by decide, by decide +kernel, Or.inr ⟨rfl, rfl, rfl, (gW_in 862 (by decide +kernel) rfl)⟩⟩
theorem ps_Mod_16 : pS "InterleavedLinkModel" "<init>" 16 10 2 (.array .int) := ⟨"InterleavedLinkModel", T_Mod, 56, cf_Mod, by decide, by decide +kernel, Or.inr ⟨rfl, rfl, rfl, (gW_in 863 (by decide +kernel) rfl)⟩⟩
theorem ps_Mod_19 : pS "InterleavedLinkModel" "<init>" 19 10 3 (.array .int) := ⟨"InterleavedLinkModel", T_Mod, 56, cf_Mod, by decide, by decide +kernel, Or.inr ⟨rfl, rfl, rfl, (gW_in 864 (by decide +kernel) rfl)⟩⟩
theorem ps_Mod_22 : pS "InterleavedLinkModel" "<init>" 22 10 4 (.array .int) := ⟨"InterleavedLinkModel", T_Mod, 56, cf_Mod, by decide, by decide +kernel, Or.inr ⟨rfl, rfl, rfl, (gW_in 865 (by decide +kernel) rfl)⟩⟩
theorem ps_Mod_25 : pS "InterleavedLinkModel" "<init>" 25 10 5 (.array .int) := ⟨"InterleavedLinkModel", T_Mod, 56, cf_Mod, by decide, by decide +kernel, Or.inr ⟨rfl, rfl, rfl, (gW_in 866 (by decide +kernel) rfl)⟩⟩
theorem ps_Mod_28 : pS "InterleavedLinkModel" "<init>" 28 10 6 (.array .boolean) := ⟨"InterleavedLinkModel", T_Mod, 56, cf_Mod, by decide, by decide +kernel, Or.inr ⟨rfl, rfl, rfl, (gW_in 867 (by decide +kernel) rfl)⟩⟩
theorem ps_Mod_32 : pS "InterleavedLinkModel" "<init>" 32 10 7 (.array .int) := ⟨"InterleavedLinkModel", T_Mod, 56, cf_Mod, by decide, by decide +kernel, Or.inr ⟨rfl, rfl, rfl, (gW_in 868 (by decide +kernel) rfl)⟩⟩
theorem aw_long : Cond.arrayClass .long ∈ gW := gW_in 1030 (by decide +kernel) rfl
theorem ps_Mod_35 : pS "InterleavedLinkModel" "<init>" 35 10 8 (.array .long) := ⟨"InterleavedLinkModel", T_Mod, 56, cf_Mod, by decide, by decide +kernel, Or.inr ⟨rfl, rfl, rfl, (gW_in 869 (by decide +kernel) rfl)⟩⟩
theorem ps_Mod_39 : pS "InterleavedLinkModel" "<init>" 39 10 9 (.array .int) := ⟨"InterleavedLinkModel", T_Mod, 56, cf_Mod, by decide, by decide +kernel, Or.inr ⟨rfl, rfl, rfl, (gW_in 870 (by decide +kernel) rfl)⟩⟩
theorem ps_Mod_42 : pS "InterleavedLinkModel" "<init>" 42 10 10 (.array .int) := ⟨"InterleavedLinkModel", T_Mod, 56, cf_Mod, by decide, by decide +kernel, Or.inr ⟨rfl, rfl, rfl, (gW_in 871 (by decide +kernel) rfl)⟩⟩
theorem ps_Mod_45 : pS "InterleavedLinkModel" "<init>" 45 10 11 (.array .int) := ⟨"InterleavedLinkModel", T_Mod, 56, cf_Mod, by decide, by decide +kernel, Or.inr ⟨rfl, rfl, rfl, (gW_in 872 (by decide +kernel) rfl)⟩⟩
theorem ps_Mod_48 : pS "InterleavedLinkModel" "<init>" 48 10 12 (.array .int) := ⟨"InterleavedLinkModel", T_Mod, 56, cf_Mod, by decide, by decide +kernel, Or.inr ⟨rfl, rfl, rfl, (gW_in 873 (by decide +kernel) rfl)⟩⟩
theorem ps_Mod_51 : pS "InterleavedLinkModel" "<init>" 51 10 13 (.array .boolean) := ⟨"InterleavedLinkModel", T_Mod, 56, cf_Mod, by decide, by decide +kernel, Or.inr ⟨rfl, rfl, rfl, (gW_in 874 (by decide +kernel) rfl)⟩⟩
theorem ps_Mod_54 : pS "InterleavedLinkModel" "<init>" 54 10 14 (.array .boolean) := ⟨"InterleavedLinkModel", T_Mod, 56, cf_Mod, by decide, by decide +kernel, Or.inr ⟨rfl, rfl, rfl, (gW_in 875 (by decide +kernel) rfl)⟩⟩
theorem ps_Mod_57 : pS "InterleavedLinkModel" "<init>" 57 10 15 (.array .boolean) := ⟨"InterleavedLinkModel", T_Mod, 56, cf_Mod, by decide, by decide +kernel, Or.inr ⟨rfl, rfl, rfl, (gW_in 876 (by decide +kernel) rfl)⟩⟩
theorem ps_Mod_60 : pS "InterleavedLinkModel" "<init>" 60 10 16 (.array .boolean) := ⟨"InterleavedLinkModel", T_Mod, 56, cf_Mod, by decide, by decide +kernel, Or.inr ⟨rfl, rfl, rfl, (gW_in 877 (by decide +kernel) rfl)⟩⟩
theorem ps_Mod_63 : pS "InterleavedLinkModel" "<init>" 63 10 17 (.array .boolean) := ⟨"InterleavedLinkModel", T_Mod, 56, cf_Mod, by decide, by decide +kernel, Or.inr ⟨rfl, rfl, rfl, (gW_in 878 (by decide +kernel) rfl)⟩⟩
theorem ps_Mod_66 : pS "InterleavedLinkModel" "<init>" 66 10 18 (.array .boolean) := ⟨"InterleavedLinkModel", T_Mod, 56, cf_Mod, by decide, by decide +kernel, Or.inr ⟨rfl, rfl, rfl, (gW_in 879 (by decide +kernel) rfl)⟩⟩
theorem ps_Mod_69 : pS "InterleavedLinkModel" "<init>" 69 10 19 (.array .boolean) := ⟨"InterleavedLinkModel", T_Mod, 56, cf_Mod, by decide, by decide +kernel, Or.inr ⟨rfl, rfl, rfl, (gW_in 880 (by decide +kernel) rfl)⟩⟩
theorem ps_Mod_72 : pS "InterleavedLinkModel" "<init>" 72 10 20 (.array .int) := ⟨"InterleavedLinkModel", T_Mod, 56, cf_Mod, by decide, by decide +kernel, Or.inr ⟨rfl, rfl, rfl, (gW_in 881 (by decide +kernel) rfl)⟩⟩
theorem ps_Mod_75 : pS "InterleavedLinkModel" "<init>" 75 10 21 (.array .int) := ⟨"InterleavedLinkModel", T_Mod, 56, cf_Mod, by decide, by decide +kernel, Or.inr ⟨rfl, rfl, rfl, (gW_in 882 (by decide +kernel) rfl)⟩⟩
theorem ps_Mod_78 : pS "InterleavedLinkModel" "<init>" 78 10 22 (.array .int) := ⟨"InterleavedLinkModel", T_Mod, 56, cf_Mod, by decide, by decide +kernel, Or.inr ⟨rfl, rfl, rfl, (gW_in 883 (by decide +kernel) rfl)⟩⟩
theorem ps_Mod_81 : pS "InterleavedLinkModel" "<init>" 81 10 23 (.array .int) := ⟨"InterleavedLinkModel", T_Mod, 56, cf_Mod, by decide, by decide +kernel, Or.inr ⟨rfl, rfl, rfl, (gW_in 884 (by decide +kernel) rfl)⟩⟩
theorem ps_Mod_84 : pS "InterleavedLinkModel" "<init>" 84 10 24 (.array .int) := ⟨"InterleavedLinkModel", T_Mod, 56, cf_Mod, by decide, by decide +kernel, Or.inr ⟨rfl, rfl, rfl, (gW_in 885 (by decide +kernel) rfl)⟩⟩
theorem ps_Mod_87 : pS "InterleavedLinkModel" "<init>" 87 10 25 (.array .int) := ⟨"InterleavedLinkModel", T_Mod, 56, cf_Mod, by decide, by decide +kernel, Or.inr ⟨rfl, rfl, rfl, (gW_in 886 (by decide +kernel) rfl)⟩⟩
theorem ps_Mod_90 : pS "InterleavedLinkModel" "<init>" 90 10 26 (.array .int) := ⟨"InterleavedLinkModel", T_Mod, 56, cf_Mod, by decide, by decide +kernel, Or.inr ⟨rfl, rfl, rfl, (gW_in 887 (by decide +kernel) rfl)⟩⟩
theorem ps_Mod_93 : pS "InterleavedLinkModel" "<init>" 93 10 27 (.array .int) := ⟨"InterleavedLinkModel", T_Mod, 56, cf_Mod, by decide, by decide +kernel, Or.inr ⟨rfl, rfl, rfl, (gW_in 888 (by decide +kernel) rfl)⟩⟩
theorem ps_Mod_96 : pS "InterleavedLinkModel" "<init>" 96 10 28 (.array .int) := ⟨"InterleavedLinkModel", T_Mod, 56, cf_Mod, by decide, by decide +kernel, Or.inr ⟨rfl, rfl, rfl, (gW_in 889 (by decide +kernel) rfl)⟩⟩
theorem ps_Mod_99 : pS "InterleavedLinkModel" "<init>" 99 10 29 (.array .int) := ⟨"InterleavedLinkModel", T_Mod, 56, cf_Mod, by decide, by decide +kernel, Or.inr ⟨rfl, rfl, rfl, (gW_in 890 (by decide +kernel) rfl)⟩⟩
theorem ps_Mod_102 : pS "InterleavedLinkModel" "<init>" 102 10 30 (.array .int) := ⟨"InterleavedLinkModel", T_Mod, 56, cf_Mod, by decide, by decide +kernel, Or.inr ⟨rfl, rfl, rfl, (gW_in 891 (by decide +kernel) rfl)⟩⟩
theorem ps_Mod_105 : pS "InterleavedLinkModel" "<init>" 105 10 31 (.array .int) := ⟨"InterleavedLinkModel", T_Mod, 56, cf_Mod, by decide, by decide +kernel, Or.inr ⟨rfl, rfl, rfl, (gW_in 892 (by decide +kernel) rfl)⟩⟩
theorem ps_Mod_108 : pS "InterleavedLinkModel" "<init>" 108 10 32 (.array .int) := ⟨"InterleavedLinkModel", T_Mod, 56, cf_Mod, by decide, by decide +kernel, Or.inr ⟨rfl, rfl, rfl, (gW_in 893 (by decide +kernel) rfl)⟩⟩
theorem ps_Mod_111 : pS "InterleavedLinkModel" "<init>" 111 10 33 (.array .int) := ⟨"InterleavedLinkModel", T_Mod, 56, cf_Mod, by decide, by decide +kernel, Or.inr ⟨rfl, rfl, rfl, (gW_in 894 (by decide +kernel) rfl)⟩⟩
theorem ps_Mod_114 : pS "InterleavedLinkModel" "<init>" 114 10 34 (.array .int) := ⟨"InterleavedLinkModel", T_Mod, 56, cf_Mod, by decide, by decide +kernel, Or.inr ⟨rfl, rfl, rfl, (gW_in 895 (by decide +kernel) rfl)⟩⟩
theorem ps_Mod_117 : pS "InterleavedLinkModel" "<init>" 117 10 36 (.array .int) := ⟨"InterleavedLinkModel", T_Mod, 56, cf_Mod, by decide, by decide +kernel, Or.inr ⟨rfl, rfl, rfl, (gW_in 897 (by decide +kernel) rfl)⟩⟩
theorem ps_Mod_120 : pS "InterleavedLinkModel" "<init>" 120 10 37 (.array .int) := ⟨"InterleavedLinkModel", T_Mod, 56, cf_Mod, by decide, by decide +kernel, Or.inr ⟨rfl, rfl, rfl, (gW_in 898 (by decide +kernel) rfl)⟩⟩
theorem ps_Mod_123 : pS "InterleavedLinkModel" "<init>" 123 10 38 (.array .boolean) := ⟨"InterleavedLinkModel", T_Mod, 56, cf_Mod, by decide, by decide +kernel, Or.inr ⟨rfl, rfl, rfl, (gW_in 899 (by decide +kernel) rfl)⟩⟩
theorem ps_Mod_126 : pS "InterleavedLinkModel" "<init>" 126 10 39 (.array .int) := ⟨"InterleavedLinkModel", T_Mod, 56, cf_Mod, by decide, by decide +kernel, Or.inr ⟨rfl, rfl, rfl, (gW_in 900 (by decide +kernel) rfl)⟩⟩
theorem ps_Mod_129 : pS "InterleavedLinkModel" "<init>" 129 10 40 (.array .boolean) := ⟨"InterleavedLinkModel", T_Mod, 56, cf_Mod, by decide, by decide +kernel, Or.inr ⟨rfl, rfl, rfl, (gW_in 901 (by decide +kernel) rfl)⟩⟩
theorem ps_Mod_132 : pS "InterleavedLinkModel" "<init>" 132 10 41 (.array .int) := ⟨"InterleavedLinkModel", T_Mod, 56, cf_Mod, by decide, by decide +kernel, Or.inr ⟨rfl, rfl, rfl, (gW_in 902 (by decide +kernel) rfl)⟩⟩
theorem ps_Mod_135 : pS "InterleavedLinkModel" "<init>" 135 10 42 (.array .int) := ⟨"InterleavedLinkModel", T_Mod, 56, cf_Mod, by decide, by decide +kernel, Or.inr ⟨rfl, rfl, rfl, (gW_in 903 (by decide +kernel) rfl)⟩⟩
theorem ps_Mod_138 : pS "InterleavedLinkModel" "<init>" 138 10 43 (.array .int) := ⟨"InterleavedLinkModel", T_Mod, 56, cf_Mod, by decide, by decide +kernel, Or.inr ⟨rfl, rfl, rfl, (gW_in 904 (by decide +kernel) rfl)⟩⟩
theorem ps_Mod_141 : pS "InterleavedLinkModel" "<init>" 141 10 44 (.array .int) := ⟨"InterleavedLinkModel", T_Mod, 56, cf_Mod, by decide, by decide +kernel, Or.inr ⟨rfl, rfl, rfl, (gW_in 905 (by decide +kernel) rfl)⟩⟩
theorem ps_Mod_144 : pS "InterleavedLinkModel" "<init>" 144 10 45 (.array .int) := ⟨"InterleavedLinkModel", T_Mod, 56, cf_Mod, by decide, by decide +kernel, Or.inr ⟨rfl, rfl, rfl, (gW_in 906 (by decide +kernel) rfl)⟩⟩
theorem ps_Mod_147 : pS "InterleavedLinkModel" "<init>" 147 10 46 (.array .int) := ⟨"InterleavedLinkModel", T_Mod, 56, cf_Mod, by decide, by decide +kernel, Or.inr ⟨rfl, rfl, rfl, (gW_in 907 (by decide +kernel) rfl)⟩⟩
theorem ps_Mod_150 : pS "InterleavedLinkModel" "<init>" 150 10 47 (.array .int) := ⟨"InterleavedLinkModel", T_Mod, 56, cf_Mod, by decide, by decide +kernel, Or.inr ⟨rfl, rfl, rfl, (gW_in 908 (by decide +kernel) rfl)⟩⟩
theorem ps_Mod_153 : pS "InterleavedLinkModel" "<init>" 153 10 48 (.array .int) := ⟨"InterleavedLinkModel", T_Mod, 56, cf_Mod, by decide, by decide +kernel, Or.inr ⟨rfl, rfl, rfl, (gW_in 909 (by decide +kernel) rfl)⟩⟩
theorem ps_Mod_156 : pS "InterleavedLinkModel" "<init>" 156 10 49 (.array .int) := ⟨"InterleavedLinkModel", T_Mod, 56, cf_Mod, by decide, by decide +kernel, Or.inr ⟨rfl, rfl, rfl, (gW_in 910 (by decide +kernel) rfl)⟩⟩
theorem ps_Mod_159 : pS "InterleavedLinkModel" "<init>" 159 10 50 (.array .int) := ⟨"InterleavedLinkModel", T_Mod, 56, cf_Mod, by decide, by decide +kernel, Or.inr ⟨rfl, rfl, rfl, (gW_in 911 (by decide +kernel) rfl)⟩⟩
theorem ps_Mod_162 : pS "InterleavedLinkModel" "<init>" 162 10 51 (.array .boolean) := ⟨"InterleavedLinkModel", T_Mod, 56, cf_Mod, by decide, by decide +kernel, Or.inr ⟨rfl, rfl, rfl, (gW_in 912 (by decide +kernel) rfl)⟩⟩
theorem ps_Mod_165 : pS "InterleavedLinkModel" "<init>" 165 10 53 (.array .int) := ⟨"InterleavedLinkModel", T_Mod, 56, cf_Mod, by decide, by decide +kernel, Or.inr ⟨rfl, rfl, rfl, (gW_in 914 (by decide +kernel) rfl)⟩⟩
theorem ps_Mod_168 : pS "InterleavedLinkModel" "<init>" 168 10 54 (.array .int) := ⟨"InterleavedLinkModel", T_Mod, 56, cf_Mod, by decide, by decide +kernel, Or.inr ⟨rfl, rfl, rfl, (gW_in 915 (by decide +kernel) rfl)⟩⟩
def mkMod0 (M : mM) (t : Nat) : mM := setR (newM (setR (newM (setR (newM (setR (newM (setR (newM (setR (newM (setR (newM (setR (newM M 100 2) t 0 (some (mN M))) 100 2) t 1 (some (mN M + 1))) 100 2) t 2 (some (mN M + 2))) 100 96) t 3 (some (mN M + 3))) 100 96) t 4 (some (mN M + 4))) 100 96) t 5 (some (mN M + 5))) 102 96) t 6 (some (mN M + 6))) 100 96) t 7 (some (mN M + 7))
def mkMod1 (M : mM) (t : Nat) : mM := setR (newM (setR (newM (setR (newM (setR (newM (setR (newM (setR (newM (setR (newM (setR (newM (mkMod0 M t) 103 96) t 8 (some (mN M + 8))) 100 768) t 9 (some (mN M + 9))) 100 768) t 10 (some (mN M + 10))) 100 768) t 11 (some (mN M + 11))) 100 768) t 12 (some (mN M + 12))) 102 24) t 13 (some (mN M + 13))) 102 24) t 14 (some (mN M + 14))) 102 24) t 15 (some (mN M + 15))
def mkMod2 (M : mM) (t : Nat) : mM := setR (newM (setR (newM (setR (newM (setR (newM (setR (newM (setR (newM (setR (newM (setR (newM (mkMod1 M t) 102 24) t 16 (some (mN M + 16))) 102 24) t 17 (some (mN M + 17))) 102 24) t 18 (some (mN M + 18))) 102 24) t 19 (some (mN M + 19))) 100 24) t 20 (some (mN M + 20))) 100 24) t 21 (some (mN M + 21))) 100 24) t 22 (some (mN M + 22))) 100 24) t 23 (some (mN M + 23))
def mkMod3 (M : mM) (t : Nat) : mM := setR (newM (setR (newM (setR (newM (setR (newM (setR (newM (setR (newM (setR (newM (setR (newM (mkMod2 M t) 100 24) t 24 (some (mN M + 24))) 100 144) t 25 (some (mN M + 25))) 100 144) t 26 (some (mN M + 26))) 100 24) t 27 (some (mN M + 27))) 100 768) t 28 (some (mN M + 28))) 100 2) t 29 (some (mN M + 29))) 100 80) t 30 (some (mN M + 30))) 100 80) t 31 (some (mN M + 31))
def mkMod4 (M : mM) (t : Nat) : mM := setR (newM (setR (newM (setR (newM (setR (newM (setR (newM (setR (newM (setR (newM (setR (newM (mkMod3 M t) 100 2) t 32 (some (mN M + 32))) 100 2) t 33 (some (mN M + 33))) 100 2) t 34 (some (mN M + 34))) 100 6) t 36 (some (mN M + 35))) 100 6) t 37 (some (mN M + 36))) 102 2) t 38 (some (mN M + 37))) 100 2) t 39 (some (mN M + 38))) 102 2) t 40 (some (mN M + 39))
def mkMod5 (M : mM) (t : Nat) : mM := setR (newM (setR (newM (setR (newM (setR (newM (setR (newM (setR (newM (setR (newM (setR (newM (mkMod4 M t) 100 2) t 41 (some (mN M + 40))) 100 16) t 42 (some (mN M + 41))) 100 16) t 43 (some (mN M + 42))) 100 4) t 44 (some (mN M + 43))) 100 4) t 45 (some (mN M + 44))) 100 24) t 46 (some (mN M + 45))) 100 24) t 47 (some (mN M + 46))) 100 2) t 48 (some (mN M + 47))
def mkMod6 (M : mM) (t : Nat) : mM := setR (newM (setR (newM (setR (newM (setR (newM (setR (newM (mkMod5 M t) 100 12) t 49 (some (mN M + 48))) 100 12) t 50 (some (mN M + 49))) 102 12) t 51 (some (mN M + 50))) 100 8) t 53 (some (mN M + 51))) 100 8) t 54 (some (mN M + 52))
theorem rR {N : mM} {t tag len s s' : Nat} {v o : Option Nat} (h : t < mN N) (hk : s ≠ s') (h2 : mR N t s = o) : mR (setR (newM N tag len) t s' v) t s = o := by rw [mR_setR, up2_k hk]; exact oR h h2
theorem nTS {N : mM} {t n a b s : Nat} {v : Option Nat} (h : a = mN N) : mT (setR (newM N t n) b s v) a = (t, n) := by subst h; exact mT_new N t n
theorem rS {N : mM} {t s : Nat} {v : Option Nat} : mR (setR N t s v) t s = v := up2_same
set_option maxRecDepth 100000 in
set_option maxHeartbeats 4000000 in
theorem mod_R_force {M : mM} {t : Nat} (hlt : t < mN M) : mR (mkMod6 M t) t 36 = some (mN M + 35) := (rR (Nat.lt_add_right 52 hlt) (by decide) (rR (Nat.lt_add_right 51 hlt) (by decide) (rR (Nat.lt_add_right 50 hlt) (by decide) (rR (Nat.lt_add_right 49 hlt) (by decide) (rR (Nat.lt_add_right 48 hlt) (by decide) (rR (Nat.lt_add_right 47 hlt) (by decide) (rR (Nat.lt_add_right 46 hlt) (by decide) (rR (Nat.lt_add_right 45 hlt) (by decide) (rR (Nat.lt_add_right 44 hlt) (by decide) (rR (Nat.lt_add_right 43 hlt) (by decide) (rR (Nat.lt_add_right 42 hlt) (by decide) (rR (Nat.lt_add_right 41 hlt) (by decide) (rR (Nat.lt_add_right 40 hlt) (by decide) (rR (Nat.lt_add_right 39 hlt) (by decide) (rR (Nat.lt_add_right 38 hlt) (by decide) (rR (Nat.lt_add_right 37 hlt) (by decide) (rR (Nat.lt_add_right 36 hlt) (by decide) rS)))))))))))))))))
set_option maxRecDepth 100000 in
set_option maxHeartbeats 4000000 in
theorem mod_T_force {M : mM} {t : Nat} : mT (mkMod6 M t) (mN M + 35) = (100, 6) := (oTT (Nat.add_lt_add_left (by decide : 35 < 52) _) (oTT (Nat.add_lt_add_left (by decide : 35 < 51) _) (oTT (Nat.add_lt_add_left (by decide : 35 < 50) _) (oTT (Nat.add_lt_add_left (by decide : 35 < 49) _) (oTT (Nat.add_lt_add_left (by decide : 35 < 48) _) (oTT (Nat.add_lt_add_left (by decide : 35 < 47) _) (oTT (Nat.add_lt_add_left (by decide : 35 < 46) _) (oTT (Nat.add_lt_add_left (by decide : 35 < 45) _) (oTT (Nat.add_lt_add_left (by decide : 35 < 44) _) (oTT (Nat.add_lt_add_left (by decide : 35 < 43) _) (oTT (Nat.add_lt_add_left (by decide : 35 < 42) _) (oTT (Nat.add_lt_add_left (by decide : 35 < 41) _) (oTT (Nat.add_lt_add_left (by decide : 35 < 40) _) (oTT (Nat.add_lt_add_left (by decide : 35 < 39) _) (oTT (Nat.add_lt_add_left (by decide : 35 < 38) _) (oTT (Nat.add_lt_add_left (by decide : 35 < 37) _) (oTT (Nat.add_lt_add_left (by decide : 35 < 36) _) (nTS rfl))))))))))))))))))
set_option maxRecDepth 100000 in
set_option maxHeartbeats 4000000 in
theorem mod_R_told {M : mM} {t : Nat} (hlt : t < mN M) : mR (mkMod6 M t) t 37 = some (mN M + 36) := (rR (Nat.lt_add_right 52 hlt) (by decide) (rR (Nat.lt_add_right 51 hlt) (by decide) (rR (Nat.lt_add_right 50 hlt) (by decide) (rR (Nat.lt_add_right 49 hlt) (by decide) (rR (Nat.lt_add_right 48 hlt) (by decide) (rR (Nat.lt_add_right 47 hlt) (by decide) (rR (Nat.lt_add_right 46 hlt) (by decide) (rR (Nat.lt_add_right 45 hlt) (by decide) (rR (Nat.lt_add_right 44 hlt) (by decide) (rR (Nat.lt_add_right 43 hlt) (by decide) (rR (Nat.lt_add_right 42 hlt) (by decide) (rR (Nat.lt_add_right 41 hlt) (by decide) (rR (Nat.lt_add_right 40 hlt) (by decide) (rR (Nat.lt_add_right 39 hlt) (by decide) (rR (Nat.lt_add_right 38 hlt) (by decide) (rR (Nat.lt_add_right 37 hlt) (by decide) rS))))))))))))))))
set_option maxRecDepth 100000 in
set_option maxHeartbeats 4000000 in
theorem mod_T_told {M : mM} {t : Nat} : mT (mkMod6 M t) (mN M + 36) = (100, 6) := (oTT (Nat.add_lt_add_left (by decide : 36 < 52) _) (oTT (Nat.add_lt_add_left (by decide : 36 < 51) _) (oTT (Nat.add_lt_add_left (by decide : 36 < 50) _) (oTT (Nat.add_lt_add_left (by decide : 36 < 49) _) (oTT (Nat.add_lt_add_left (by decide : 36 < 48) _) (oTT (Nat.add_lt_add_left (by decide : 36 < 47) _) (oTT (Nat.add_lt_add_left (by decide : 36 < 46) _) (oTT (Nat.add_lt_add_left (by decide : 36 < 45) _) (oTT (Nat.add_lt_add_left (by decide : 36 < 44) _) (oTT (Nat.add_lt_add_left (by decide : 36 < 43) _) (oTT (Nat.add_lt_add_left (by decide : 36 < 42) _) (oTT (Nat.add_lt_add_left (by decide : 36 < 41) _) (oTT (Nat.add_lt_add_left (by decide : 36 < 40) _) (oTT (Nat.add_lt_add_left (by decide : 36 < 39) _) (oTT (Nat.add_lt_add_left (by decide : 36 < 38) _) (oTT (Nat.add_lt_add_left (by decide : 36 < 37) _) (nTS rfl)))))))))))))))))
set_option maxRecDepth 100000 in
set_option maxHeartbeats 4000000 in
theorem mod_R_lastData {M : mM} {t : Nat} (hlt : t < mN M) : mR (mkMod6 M t) t 34 = some (mN M + 34) := (rR (Nat.lt_add_right 52 hlt) (by decide) (rR (Nat.lt_add_right 51 hlt) (by decide) (rR (Nat.lt_add_right 50 hlt) (by decide) (rR (Nat.lt_add_right 49 hlt) (by decide) (rR (Nat.lt_add_right 48 hlt) (by decide) (rR (Nat.lt_add_right 47 hlt) (by decide) (rR (Nat.lt_add_right 46 hlt) (by decide) (rR (Nat.lt_add_right 45 hlt) (by decide) (rR (Nat.lt_add_right 44 hlt) (by decide) (rR (Nat.lt_add_right 43 hlt) (by decide) (rR (Nat.lt_add_right 42 hlt) (by decide) (rR (Nat.lt_add_right 41 hlt) (by decide) (rR (Nat.lt_add_right 40 hlt) (by decide) (rR (Nat.lt_add_right 39 hlt) (by decide) (rR (Nat.lt_add_right 38 hlt) (by decide) (rR (Nat.lt_add_right 37 hlt) (by decide) (rR (Nat.lt_add_right 36 hlt) (by decide) (rR (Nat.lt_add_right 35 hlt) (by decide) rS))))))))))))))))))
set_option maxRecDepth 100000 in
set_option maxHeartbeats 4000000 in
theorem mod_T_lastData {M : mM} {t : Nat} : mT (mkMod6 M t) (mN M + 34) = (100, 2) := (oTT (Nat.add_lt_add_left (by decide : 34 < 52) _) (oTT (Nat.add_lt_add_left (by decide : 34 < 51) _) (oTT (Nat.add_lt_add_left (by decide : 34 < 50) _) (oTT (Nat.add_lt_add_left (by decide : 34 < 49) _) (oTT (Nat.add_lt_add_left (by decide : 34 < 48) _) (oTT (Nat.add_lt_add_left (by decide : 34 < 47) _) (oTT (Nat.add_lt_add_left (by decide : 34 < 46) _) (oTT (Nat.add_lt_add_left (by decide : 34 < 45) _) (oTT (Nat.add_lt_add_left (by decide : 34 < 44) _) (oTT (Nat.add_lt_add_left (by decide : 34 < 43) _) (oTT (Nat.add_lt_add_left (by decide : 34 < 42) _) (oTT (Nat.add_lt_add_left (by decide : 34 < 41) _) (oTT (Nat.add_lt_add_left (by decide : 34 < 40) _) (oTT (Nat.add_lt_add_left (by decide : 34 < 39) _) (oTT (Nat.add_lt_add_left (by decide : 34 < 38) _) (oTT (Nat.add_lt_add_left (by decide : 34 < 37) _) (oTT (Nat.add_lt_add_left (by decide : 34 < 36) _) (oTT (Nat.add_lt_add_left (by decide : 34 < 35) _) (nTS rfl)))))))))))))))))))
set_option maxRecDepth 100000 in
set_option maxHeartbeats 4000000 in
theorem mod_R_maximum {M : mM} {t : Nat} (hlt : t < mN M) : mR (mkMod6 M t) t 44 = some (mN M + 43) := (rR (Nat.lt_add_right 52 hlt) (by decide) (rR (Nat.lt_add_right 51 hlt) (by decide) (rR (Nat.lt_add_right 50 hlt) (by decide) (rR (Nat.lt_add_right 49 hlt) (by decide) (rR (Nat.lt_add_right 48 hlt) (by decide) (rR (Nat.lt_add_right 47 hlt) (by decide) (rR (Nat.lt_add_right 46 hlt) (by decide) (rR (Nat.lt_add_right 45 hlt) (by decide) (rR (Nat.lt_add_right 44 hlt) (by decide) rS)))))))))
set_option maxRecDepth 100000 in
set_option maxHeartbeats 4000000 in
theorem mod_T_maximum {M : mM} {t : Nat} : mT (mkMod6 M t) (mN M + 43) = (100, 4) := (oTT (Nat.add_lt_add_left (by decide : 43 < 52) _) (oTT (Nat.add_lt_add_left (by decide : 43 < 51) _) (oTT (Nat.add_lt_add_left (by decide : 43 < 50) _) (oTT (Nat.add_lt_add_left (by decide : 43 < 49) _) (oTT (Nat.add_lt_add_left (by decide : 43 < 48) _) (oTT (Nat.add_lt_add_left (by decide : 43 < 47) _) (oTT (Nat.add_lt_add_left (by decide : 43 < 46) _) (oTT (Nat.add_lt_add_left (by decide : 43 < 45) _) (oTT (Nat.add_lt_add_left (by decide : 43 < 44) _) (nTS rfl))))))))))
set_option maxRecDepth 100000 in
set_option maxHeartbeats 4000000 in
theorem mod_T {M : mM} {t : Nat} (hlt : t < mN M) (hp : (mT M t).1 = 10) : (mT (mkMod6 M t) t).1 = 10 := (oT (Nat.lt_add_right 52 hlt) (oT (Nat.lt_add_right 51 hlt) (oT (Nat.lt_add_right 50 hlt) (oT (Nat.lt_add_right 49 hlt) (oT (Nat.lt_add_right 48 hlt) (oT (Nat.lt_add_right 47 hlt) (oT (Nat.lt_add_right 46 hlt) (oT (Nat.lt_add_right 45 hlt) (oT (Nat.lt_add_right 44 hlt) (oT (Nat.lt_add_right 43 hlt) (oT (Nat.lt_add_right 42 hlt) (oT (Nat.lt_add_right 41 hlt) (oT (Nat.lt_add_right 40 hlt) (oT (Nat.lt_add_right 39 hlt) (oT (Nat.lt_add_right 38 hlt) (oT (Nat.lt_add_right 37 hlt) (oT (Nat.lt_add_right 36 hlt) (oT (Nat.lt_add_right 35 hlt) (oT (Nat.lt_add_right 34 hlt) (oT (Nat.lt_add_right 33 hlt) (oT (Nat.lt_add_right 32 hlt) (oT (Nat.lt_add_right 31 hlt) (oT (Nat.lt_add_right 30 hlt) (oT (Nat.lt_add_right 29 hlt) (oT (Nat.lt_add_right 28 hlt) (oT (Nat.lt_add_right 27 hlt) (oT (Nat.lt_add_right 26 hlt) (oT (Nat.lt_add_right 25 hlt) (oT (Nat.lt_add_right 24 hlt) (oT (Nat.lt_add_right 23 hlt) (oT (Nat.lt_add_right 22 hlt) (oT (Nat.lt_add_right 21 hlt) (oT (Nat.lt_add_right 20 hlt) (oT (Nat.lt_add_right 19 hlt) (oT (Nat.lt_add_right 18 hlt) (oT (Nat.lt_add_right 17 hlt) (oT (Nat.lt_add_right 16 hlt) (oT (Nat.lt_add_right 15 hlt) (oT (Nat.lt_add_right 14 hlt) (oT (Nat.lt_add_right 13 hlt) (oT (Nat.lt_add_right 12 hlt) (oT (Nat.lt_add_right 11 hlt) (oT (Nat.lt_add_right 10 hlt) (oT (Nat.lt_add_right 9 hlt) (oT (Nat.lt_add_right 8 hlt) (oT (Nat.lt_add_right 7 hlt) (oT (Nat.lt_add_right 6 hlt) (oT (Nat.lt_add_right 5 hlt) (oT (Nat.lt_add_right 4 hlt) (oT (Nat.lt_add_right 3 hlt) (oT (Nat.lt_add_right 2 hlt) (oT (Nat.lt_add_right 1 hlt) (oT (Nat.lt_add_right 0 hlt) hp)))))))))))))))))))))))))))))))))))))))))))))))))))))
/-- the settings of end e, as the reference begins with them; f, o, d, x: its arrays force, told, lastData, maximum -/
def modE (N : mM) (f o d x e : Nat) : mM := setI (setI (setI (setI (setI (setI (setI (setI (setI N f (3 * e) 100) f (3 * e + 1) 12) f (3 * e + 2) 16) o (3 * e) 100) o (3 * e + 1) 12) o (3 * e + 2) 16) d e (-1)) x (2 * e) 100) x (2 * e + 1) 100
def mkMod (M : mM) (t : Nat) : mM := modE (modE (mkMod6 M t) (mN M + 35) (mN M + 36) (mN M + 34) (mN M + 43) 0) (mN M + 35) (mN M + 36) (mN M + 34) (mN M + 43) 1
set_option maxRecDepth 100000 in
set_option maxHeartbeats 4000000 in
theorem g_Mod_2 {X : mX} {l : Launch} {N : mM} {t : Nat} {Q : Option Value → mM → Prop} (hq : Q none N) : G X l uMod_init (rn 1 12 53 5352) 0 0 N 423 [some (.ref t), some (.int (nI 2))] [] Q := by
  refine g_iload_n 423 dMod_init_423 rfl ?_
  refine g_iconst 424 2 dMod_init_424 rfl ?_
  refine g_icmp_ge 425 531 dMod_init_425 rfl (fun h425 => ?_) (fun h425 => ?_)
  · exact g_vret 531 dMod_init_531 rfl hq
  · exact absurd (by decide) h425
set_option maxRecDepth 100000 in
set_option maxHeartbeats 4000000 in
theorem g_Mod_1 {X : mX} {l : Launch} {N : mM} {t f o d x : Nat} {Q : Option Value → mM → Prop} (hp : (mT N t).1 = 10) (r1 : mR N t 36 = some f) (r2 : mR N t 37 = some o) (r3 : mR N t 34 = some d) (r4 : mR N t 44 = some x) (t1 : mT N f = (100, 6)) (t2 : mT N o = (100, 6)) (t3 : mT N d = (100, 2)) (t4 : mT N x = (100, 4)) (hq : Q none (modE N f o d x 1)) : G X l uMod_init (rn 1 12 53 5352) 0 0 N 423 [some (.ref t), some (.int (nI 1))] [] Q := by
  have i0 : ((3 * nI 1) : Int32).toNatClampNeg = 3 := by decide +kernel
  have v0 : vp_in (3 * nI 1) 6 := by unfold vp_in; decide +kernel
  have i1 : ((3 * nI 1 + 1) : Int32).toNatClampNeg = 4 := by decide +kernel
  have v1 : vp_in (3 * nI 1 + 1) 6 := by unfold vp_in; decide +kernel
  have i2 : ((3 * nI 1 + 2) : Int32).toNatClampNeg = 5 := by decide +kernel
  have v2 : vp_in (3 * nI 1 + 2) 6 := by unfold vp_in; decide +kernel
  have i3 : ((nI 1) : Int32).toNatClampNeg = 1 := by decide +kernel
  have v3 : vp_in (nI 1) 2 := by unfold vp_in; decide +kernel
  have i4 : ((2 * nI 1) : Int32).toNatClampNeg = 2 := by decide +kernel
  have v4 : vp_in (2 * nI 1) 4 := by unfold vp_in; decide +kernel
  have i5 : ((2 * nI 1 + 1) : Int32).toNatClampNeg = 3 := by decide +kernel
  have v5 : vp_in (2 * nI 1 + 1) 4 := by unfold vp_in; decide +kernel
  refine g_iload_n 423 dMod_init_423 rfl ?_
  refine g_iconst 424 2 dMod_init_424 rfl ?_
  refine g_icmp_ge 425 531 dMod_init_425 rfl (fun h425 => ?_) (fun h425 => ?_)
  · exact absurd h425 (by decide)
  · refine g_aload_n 428 dMod_init_428 rfl ?_
    refine g_getr 429 10 36 dMod_init_429 fs_Mod_117 rfl hp r1 ?_
    refine g_iconst 432 3 dMod_init_432 rfl ?_
    refine g_iload_n 433 dMod_init_433 rfl ?_
    refine g_imul 434 dMod_init_434 ?_
    refine g_bipush 435 100 dMod_init_435 rfl ?_
    refine g_iast 437 dMod_init_437 t1 v0 ?_
    refine g_aload_n 438 dMod_init_438 rfl ?_
    refine g_getr 439 10 36 dMod_init_439 fs_Mod_117 rfl hp r1 ?_
    refine g_iconst 442 3 dMod_init_442 rfl ?_
    refine g_iload_n 443 dMod_init_443 rfl ?_
    refine g_imul 444 dMod_init_444 ?_
    refine g_iconst 445 1 dMod_init_445 rfl ?_
    refine g_iadd 446 dMod_init_446 ?_
    refine g_bipush 447 12 dMod_init_447 rfl ?_
    refine g_iast 449 dMod_init_449 t1 v1 ?_
    refine g_aload_n 450 dMod_init_450 rfl ?_
    refine g_getr 451 10 36 dMod_init_451 fs_Mod_117 rfl hp r1 ?_
    refine g_iconst 454 3 dMod_init_454 rfl ?_
    refine g_iload_n 455 dMod_init_455 rfl ?_
    refine g_imul 456 dMod_init_456 ?_
    refine g_iconst 457 2 dMod_init_457 rfl ?_
    refine g_iadd 458 dMod_init_458 ?_
    refine g_bipush 459 16 dMod_init_459 rfl ?_
    refine g_iast 461 dMod_init_461 t1 v2 ?_
    refine g_aload_n 462 dMod_init_462 rfl ?_
    refine g_getr 463 10 37 dMod_init_463 fs_Mod_120 rfl hp r2 ?_
    refine g_iconst 466 3 dMod_init_466 rfl ?_
    refine g_iload_n 467 dMod_init_467 rfl ?_
    refine g_imul 468 dMod_init_468 ?_
    refine g_bipush 469 100 dMod_init_469 rfl ?_
    refine g_iast 471 dMod_init_471 t2 v0 ?_
    refine g_aload_n 472 dMod_init_472 rfl ?_
    refine g_getr 473 10 37 dMod_init_473 fs_Mod_120 rfl hp r2 ?_
    refine g_iconst 476 3 dMod_init_476 rfl ?_
    refine g_iload_n 477 dMod_init_477 rfl ?_
    refine g_imul 478 dMod_init_478 ?_
    refine g_iconst 479 1 dMod_init_479 rfl ?_
    refine g_iadd 480 dMod_init_480 ?_
    refine g_bipush 481 12 dMod_init_481 rfl ?_
    refine g_iast 483 dMod_init_483 t2 v1 ?_
    refine g_aload_n 484 dMod_init_484 rfl ?_
    refine g_getr 485 10 37 dMod_init_485 fs_Mod_120 rfl hp r2 ?_
    refine g_iconst 488 3 dMod_init_488 rfl ?_
    refine g_iload_n 489 dMod_init_489 rfl ?_
    refine g_imul 490 dMod_init_490 ?_
    refine g_iconst 491 2 dMod_init_491 rfl ?_
    refine g_iadd 492 dMod_init_492 ?_
    refine g_bipush 493 16 dMod_init_493 rfl ?_
    refine g_iast 495 dMod_init_495 t2 v2 ?_
    refine g_aload_n 496 dMod_init_496 rfl ?_
    refine g_getr 497 10 34 dMod_init_497 fs_Mod_114 rfl hp r3 ?_
    refine g_iload_n 500 dMod_init_500 rfl ?_
    refine g_iconst 501 (-1) dMod_init_501 rfl ?_
    refine g_iast 502 dMod_init_502 t3 v3 ?_
    refine g_aload_n 503 dMod_init_503 rfl ?_
    refine g_getr 504 10 44 dMod_init_504 fs_Mod_141 rfl hp r4 ?_
    refine g_iconst 507 2 dMod_init_507 rfl ?_
    refine g_iload_n 508 dMod_init_508 rfl ?_
    refine g_imul 509 dMod_init_509 ?_
    refine g_bipush 510 100 dMod_init_510 rfl ?_
    refine g_iast 512 dMod_init_512 t4 v4 ?_
    refine g_aload_n 513 dMod_init_513 rfl ?_
    refine g_getr 514 10 44 dMod_init_514 fs_Mod_141 rfl hp r4 ?_
    refine g_iconst 517 2 dMod_init_517 rfl ?_
    refine g_iload_n 518 dMod_init_518 rfl ?_
    refine g_imul 519 dMod_init_519 ?_
    refine g_iconst 520 1 dMod_init_520 rfl ?_
    refine g_iadd 521 dMod_init_521 ?_
    refine g_bipush 522 100 dMod_init_522 rfl ?_
    refine g_iast 524 dMod_init_524 t4 v5 ?_
    refine g_iinc 525 1 dMod_init_525 rfl rfl (by decide) rfl ?_
    refine g_goto 528 423 dMod_init_528 rfl ?_
    rw [i0, i1, i2, i3, i4, i5, nI_1]
    exact g_Mod_2 hq
set_option maxRecDepth 100000 in
set_option maxHeartbeats 4000000 in
theorem g_Mod_0 {X : mX} {l : Launch} {N : mM} {t f o d x : Nat} {Q : Option Value → mM → Prop} (hp : (mT N t).1 = 10) (r1 : mR N t 36 = some f) (r2 : mR N t 37 = some o) (r3 : mR N t 34 = some d) (r4 : mR N t 44 = some x) (t1 : mT N f = (100, 6)) (t2 : mT N o = (100, 6)) (t3 : mT N d = (100, 2)) (t4 : mT N x = (100, 4)) (hq : Q none (modE (modE N f o d x 0) f o d x 1)) : G X l uMod_init (rn 1 12 53 5352) 0 0 N 423 [some (.ref t), some (.int (nI 0))] [] Q := by
  have i0 : ((3 * nI 0) : Int32).toNatClampNeg = 0 := by decide +kernel
  have v0 : vp_in (3 * nI 0) 6 := by unfold vp_in; decide +kernel
  have i1 : ((3 * nI 0 + 1) : Int32).toNatClampNeg = 1 := by decide +kernel
  have v1 : vp_in (3 * nI 0 + 1) 6 := by unfold vp_in; decide +kernel
  have i2 : ((3 * nI 0 + 2) : Int32).toNatClampNeg = 2 := by decide +kernel
  have v2 : vp_in (3 * nI 0 + 2) 6 := by unfold vp_in; decide +kernel
  have i3 : ((nI 0) : Int32).toNatClampNeg = 0 := by decide +kernel
  have v3 : vp_in (nI 0) 2 := by unfold vp_in; decide +kernel
  have i4 : ((2 * nI 0) : Int32).toNatClampNeg = 0 := by decide +kernel
  have v4 : vp_in (2 * nI 0) 4 := by unfold vp_in; decide +kernel
  have i5 : ((2 * nI 0 + 1) : Int32).toNatClampNeg = 1 := by decide +kernel
  have v5 : vp_in (2 * nI 0 + 1) 4 := by unfold vp_in; decide +kernel
  refine g_iload_n 423 dMod_init_423 rfl ?_
  refine g_iconst 424 2 dMod_init_424 rfl ?_
  refine g_icmp_ge 425 531 dMod_init_425 rfl (fun h425 => ?_) (fun h425 => ?_)
  · exact absurd h425 (by decide)
  · refine g_aload_n 428 dMod_init_428 rfl ?_
    refine g_getr 429 10 36 dMod_init_429 fs_Mod_117 rfl hp r1 ?_
    refine g_iconst 432 3 dMod_init_432 rfl ?_
    refine g_iload_n 433 dMod_init_433 rfl ?_
    refine g_imul 434 dMod_init_434 ?_
    refine g_bipush 435 100 dMod_init_435 rfl ?_
    refine g_iast 437 dMod_init_437 t1 v0 ?_
    refine g_aload_n 438 dMod_init_438 rfl ?_
    refine g_getr 439 10 36 dMod_init_439 fs_Mod_117 rfl hp r1 ?_
    refine g_iconst 442 3 dMod_init_442 rfl ?_
    refine g_iload_n 443 dMod_init_443 rfl ?_
    refine g_imul 444 dMod_init_444 ?_
    refine g_iconst 445 1 dMod_init_445 rfl ?_
    refine g_iadd 446 dMod_init_446 ?_
    refine g_bipush 447 12 dMod_init_447 rfl ?_
    refine g_iast 449 dMod_init_449 t1 v1 ?_
    refine g_aload_n 450 dMod_init_450 rfl ?_
    refine g_getr 451 10 36 dMod_init_451 fs_Mod_117 rfl hp r1 ?_
    refine g_iconst 454 3 dMod_init_454 rfl ?_
    refine g_iload_n 455 dMod_init_455 rfl ?_
    refine g_imul 456 dMod_init_456 ?_
    refine g_iconst 457 2 dMod_init_457 rfl ?_
    refine g_iadd 458 dMod_init_458 ?_
    refine g_bipush 459 16 dMod_init_459 rfl ?_
    refine g_iast 461 dMod_init_461 t1 v2 ?_
    refine g_aload_n 462 dMod_init_462 rfl ?_
    refine g_getr 463 10 37 dMod_init_463 fs_Mod_120 rfl hp r2 ?_
    refine g_iconst 466 3 dMod_init_466 rfl ?_
    refine g_iload_n 467 dMod_init_467 rfl ?_
    refine g_imul 468 dMod_init_468 ?_
    refine g_bipush 469 100 dMod_init_469 rfl ?_
    refine g_iast 471 dMod_init_471 t2 v0 ?_
    refine g_aload_n 472 dMod_init_472 rfl ?_
    refine g_getr 473 10 37 dMod_init_473 fs_Mod_120 rfl hp r2 ?_
    refine g_iconst 476 3 dMod_init_476 rfl ?_
    refine g_iload_n 477 dMod_init_477 rfl ?_
    refine g_imul 478 dMod_init_478 ?_
    refine g_iconst 479 1 dMod_init_479 rfl ?_
    refine g_iadd 480 dMod_init_480 ?_
    refine g_bipush 481 12 dMod_init_481 rfl ?_
    refine g_iast 483 dMod_init_483 t2 v1 ?_
    refine g_aload_n 484 dMod_init_484 rfl ?_
    refine g_getr 485 10 37 dMod_init_485 fs_Mod_120 rfl hp r2 ?_
    refine g_iconst 488 3 dMod_init_488 rfl ?_
    refine g_iload_n 489 dMod_init_489 rfl ?_
    refine g_imul 490 dMod_init_490 ?_
    refine g_iconst 491 2 dMod_init_491 rfl ?_
    refine g_iadd 492 dMod_init_492 ?_
    refine g_bipush 493 16 dMod_init_493 rfl ?_
    refine g_iast 495 dMod_init_495 t2 v2 ?_
    refine g_aload_n 496 dMod_init_496 rfl ?_
    refine g_getr 497 10 34 dMod_init_497 fs_Mod_114 rfl hp r3 ?_
    refine g_iload_n 500 dMod_init_500 rfl ?_
    refine g_iconst 501 (-1) dMod_init_501 rfl ?_
    refine g_iast 502 dMod_init_502 t3 v3 ?_
    refine g_aload_n 503 dMod_init_503 rfl ?_
    refine g_getr 504 10 44 dMod_init_504 fs_Mod_141 rfl hp r4 ?_
    refine g_iconst 507 2 dMod_init_507 rfl ?_
    refine g_iload_n 508 dMod_init_508 rfl ?_
    refine g_imul 509 dMod_init_509 ?_
    refine g_bipush 510 100 dMod_init_510 rfl ?_
    refine g_iast 512 dMod_init_512 t4 v4 ?_
    refine g_aload_n 513 dMod_init_513 rfl ?_
    refine g_getr 514 10 44 dMod_init_514 fs_Mod_141 rfl hp r4 ?_
    refine g_iconst 517 2 dMod_init_517 rfl ?_
    refine g_iload_n 518 dMod_init_518 rfl ?_
    refine g_imul 519 dMod_init_519 ?_
    refine g_iconst 520 1 dMod_init_520 rfl ?_
    refine g_iadd 521 dMod_init_521 ?_
    refine g_bipush 522 100 dMod_init_522 rfl ?_
    refine g_iast 524 dMod_init_524 t4 v5 ?_
    refine g_iinc 525 1 dMod_init_525 rfl rfl (by decide) rfl ?_
    refine g_goto 528 423 dMod_init_528 rfl ?_
    rw [i0, i1, i2, i3, i4, i5, nI_1]
    exact g_Mod_1 (N := modE N f o d x 0) hp r1 r2 r3 r4 t1 t2 t3 t4 hq
set_option maxRecDepth 100000 in
set_option maxHeartbeats 4000000 in
theorem ct_Mod_init {X : mX} {l : Launch} {M : mM} {t : Nat} (hp : (mT M t).1 = 10) : Ct X l uMod_init (rn 1 12 53 5352) [.ref t] M (fun r M' => r = none ∧ M' = mkMod M t) := by
  refine Ct.of (by decide) (Nat.le_of_ble_eq_true rfl) ?_
  show G X l uMod_init (rn 1 12 53 5352) 53 5352 M 0 [some (.ref t), none] [] _
  refine G.wf fun hw => ?_
  have hlt := (hw.lt (a := t) (by rw [hp]; decide)).2
  refine g_aload_n 0 dMod_init_0 rfl ?_
  refine g_objInit 1 dMod_init_1 oi_Mod_1 oi_m oi_c ⟨(Nat.le_of_ble_eq_true rfl), (Nat.le_of_ble_eq_true rfl)⟩ ?_
  refine g_aload_n 4 dMod_init_4 rfl ?_
  refine g_iconst 5 2 dMod_init_5 rfl ?_
  refine g_newa 6 0 2 dMod_init_6 aw_int rfl rfl (fun _ => rfl) (fun _ _ h => h) (by decide) (by decide) (by decide) (by decide) (Nat.le_of_ble_eq_true rfl) (Nat.le_of_ble_eq_true rfl) ?_
  refine g_putr 8 10 0 dMod_init_8 ps_Mod_7 rfl rfl (oT (Nat.lt_add_right 0 hlt) hp) ?_
  refine g_aload_n 11 dMod_init_11 rfl ?_
  refine g_iconst 12 2 dMod_init_12 rfl ?_
  refine g_newa 13 0 2 dMod_init_13 aw_int rfl rfl (fun _ => rfl) (fun _ _ h => h) (by decide) (by decide) (by decide) (by decide) (Nat.le_of_ble_eq_true rfl) (Nat.le_of_ble_eq_true rfl) ?_
  refine g_putr 15 10 1 dMod_init_15 ps_Mod_13 rfl rfl (oT (Nat.lt_add_right 1 hlt) (oT (Nat.lt_add_right 0 hlt) hp)) ?_
  refine g_aload_n 18 dMod_init_18 rfl ?_
  refine g_iconst 19 2 dMod_init_19 rfl ?_
  refine g_newa 20 0 2 dMod_init_20 aw_int rfl rfl (fun _ => rfl) (fun _ _ h => h) (by decide) (by decide) (by decide) (by decide) (Nat.le_of_ble_eq_true rfl) (Nat.le_of_ble_eq_true rfl) ?_
  refine g_putr 22 10 2 dMod_init_22 ps_Mod_16 rfl rfl (oT (Nat.lt_add_right 2 hlt) (oT (Nat.lt_add_right 1 hlt) (oT (Nat.lt_add_right 0 hlt) hp))) ?_
  refine g_aload_n 25 dMod_init_25 rfl ?_
  refine g_bipush 26 96 dMod_init_26 rfl ?_
  refine g_newa 28 0 96 dMod_init_28 aw_int rfl rfl (fun _ => rfl) (fun _ _ h => h) (by decide) (by decide) (by decide) (by decide) (Nat.le_of_ble_eq_true rfl) (Nat.le_of_ble_eq_true rfl) ?_
  refine g_putr 30 10 3 dMod_init_30 ps_Mod_19 rfl rfl (oT (Nat.lt_add_right 3 hlt) (oT (Nat.lt_add_right 2 hlt) (oT (Nat.lt_add_right 1 hlt) (oT (Nat.lt_add_right 0 hlt) hp)))) ?_
  refine g_aload_n 33 dMod_init_33 rfl ?_
  refine g_bipush 34 96 dMod_init_34 rfl ?_
  refine g_newa 36 0 96 dMod_init_36 aw_int rfl rfl (fun _ => rfl) (fun _ _ h => h) (by decide) (by decide) (by decide) (by decide) (Nat.le_of_ble_eq_true rfl) (Nat.le_of_ble_eq_true rfl) ?_
  refine g_putr 38 10 4 dMod_init_38 ps_Mod_22 rfl rfl (oT (Nat.lt_add_right 4 hlt) (oT (Nat.lt_add_right 3 hlt) (oT (Nat.lt_add_right 2 hlt) (oT (Nat.lt_add_right 1 hlt) (oT (Nat.lt_add_right 0 hlt) hp))))) ?_
  refine g_aload_n 41 dMod_init_41 rfl ?_
  refine g_bipush 42 96 dMod_init_42 rfl ?_
  refine g_newa 44 0 96 dMod_init_44 aw_int rfl rfl (fun _ => rfl) (fun _ _ h => h) (by decide) (by decide) (by decide) (by decide) (Nat.le_of_ble_eq_true rfl) (Nat.le_of_ble_eq_true rfl) ?_
  refine g_putr 46 10 5 dMod_init_46 ps_Mod_25 rfl rfl (oT (Nat.lt_add_right 5 hlt) (oT (Nat.lt_add_right 4 hlt) (oT (Nat.lt_add_right 3 hlt) (oT (Nat.lt_add_right 2 hlt) (oT (Nat.lt_add_right 1 hlt) (oT (Nat.lt_add_right 0 hlt) hp)))))) ?_
  refine g_aload_n 49 dMod_init_49 rfl ?_
  refine g_bipush 50 96 dMod_init_50 rfl ?_
  refine g_newa 52 2 96 dMod_init_52 aw_boolean rfl rfl (fun _ => rfl) (fun _ _ h => h) (by decide) (by decide) (by decide) (by decide) (Nat.le_of_ble_eq_true rfl) (Nat.le_of_ble_eq_true rfl) ?_
  refine g_putr 54 10 6 dMod_init_54 ps_Mod_28 rfl rfl (oT (Nat.lt_add_right 6 hlt) (oT (Nat.lt_add_right 5 hlt) (oT (Nat.lt_add_right 4 hlt) (oT (Nat.lt_add_right 3 hlt) (oT (Nat.lt_add_right 2 hlt) (oT (Nat.lt_add_right 1 hlt) (oT (Nat.lt_add_right 0 hlt) hp))))))) ?_
  refine g_aload_n 57 dMod_init_57 rfl ?_
  refine g_bipush 58 96 dMod_init_58 rfl ?_
  refine g_newa 60 0 96 dMod_init_60 aw_int rfl rfl (fun _ => rfl) (fun _ _ h => h) (by decide) (by decide) (by decide) (by decide) (Nat.le_of_ble_eq_true rfl) (Nat.le_of_ble_eq_true rfl) ?_
  refine g_putr 62 10 7 dMod_init_62 ps_Mod_32 rfl rfl (oT (Nat.lt_add_right 7 hlt) (oT (Nat.lt_add_right 6 hlt) (oT (Nat.lt_add_right 5 hlt) (oT (Nat.lt_add_right 4 hlt) (oT (Nat.lt_add_right 3 hlt) (oT (Nat.lt_add_right 2 hlt) (oT (Nat.lt_add_right 1 hlt) (oT (Nat.lt_add_right 0 hlt) hp)))))))) ?_
  refine g_aload_n 65 dMod_init_65 rfl ?_
  refine g_bipush 66 96 dMod_init_66 rfl ?_
  refine g_newa 68 3 96 dMod_init_68 aw_long rfl rfl (fun _ => rfl) (fun _ _ h => h) (by decide) (by decide) (by decide) (by decide) (Nat.le_of_ble_eq_true rfl) (Nat.le_of_ble_eq_true rfl) ?_
  refine g_putr 70 10 8 dMod_init_70 ps_Mod_35 rfl rfl (oT (Nat.lt_add_right 8 hlt) (oT (Nat.lt_add_right 7 hlt) (oT (Nat.lt_add_right 6 hlt) (oT (Nat.lt_add_right 5 hlt) (oT (Nat.lt_add_right 4 hlt) (oT (Nat.lt_add_right 3 hlt) (oT (Nat.lt_add_right 2 hlt) (oT (Nat.lt_add_right 1 hlt) (oT (Nat.lt_add_right 0 hlt) hp))))))))) ?_
  refine g_aload_n 73 dMod_init_73 rfl ?_
  refine g_sipush 74 768 dMod_init_74 rfl ?_
  refine g_newa 77 0 768 dMod_init_77 aw_int rfl rfl (fun _ => rfl) (fun _ _ h => h) (by decide) (by decide) (by decide) (by decide) (Nat.le_of_ble_eq_true rfl) (Nat.le_of_ble_eq_true rfl) ?_
  refine g_putr 79 10 9 dMod_init_79 ps_Mod_39 rfl rfl (oT (Nat.lt_add_right 9 hlt) (oT (Nat.lt_add_right 8 hlt) (oT (Nat.lt_add_right 7 hlt) (oT (Nat.lt_add_right 6 hlt) (oT (Nat.lt_add_right 5 hlt) (oT (Nat.lt_add_right 4 hlt) (oT (Nat.lt_add_right 3 hlt) (oT (Nat.lt_add_right 2 hlt) (oT (Nat.lt_add_right 1 hlt) (oT (Nat.lt_add_right 0 hlt) hp)))))))))) ?_
  refine g_aload_n 82 dMod_init_82 rfl ?_
  refine g_sipush 83 768 dMod_init_83 rfl ?_
  refine g_newa 86 0 768 dMod_init_86 aw_int rfl rfl (fun _ => rfl) (fun _ _ h => h) (by decide) (by decide) (by decide) (by decide) (Nat.le_of_ble_eq_true rfl) (Nat.le_of_ble_eq_true rfl) ?_
  refine g_putr 88 10 10 dMod_init_88 ps_Mod_42 rfl rfl (oT (Nat.lt_add_right 10 hlt) (oT (Nat.lt_add_right 9 hlt) (oT (Nat.lt_add_right 8 hlt) (oT (Nat.lt_add_right 7 hlt) (oT (Nat.lt_add_right 6 hlt) (oT (Nat.lt_add_right 5 hlt) (oT (Nat.lt_add_right 4 hlt) (oT (Nat.lt_add_right 3 hlt) (oT (Nat.lt_add_right 2 hlt) (oT (Nat.lt_add_right 1 hlt) (oT (Nat.lt_add_right 0 hlt) hp))))))))))) ?_
  refine g_aload_n 91 dMod_init_91 rfl ?_
  refine g_sipush 92 768 dMod_init_92 rfl ?_
  refine g_newa 95 0 768 dMod_init_95 aw_int rfl rfl (fun _ => rfl) (fun _ _ h => h) (by decide) (by decide) (by decide) (by decide) (Nat.le_of_ble_eq_true rfl) (Nat.le_of_ble_eq_true rfl) ?_
  refine g_putr 97 10 11 dMod_init_97 ps_Mod_45 rfl rfl (oT (Nat.lt_add_right 11 hlt) (oT (Nat.lt_add_right 10 hlt) (oT (Nat.lt_add_right 9 hlt) (oT (Nat.lt_add_right 8 hlt) (oT (Nat.lt_add_right 7 hlt) (oT (Nat.lt_add_right 6 hlt) (oT (Nat.lt_add_right 5 hlt) (oT (Nat.lt_add_right 4 hlt) (oT (Nat.lt_add_right 3 hlt) (oT (Nat.lt_add_right 2 hlt) (oT (Nat.lt_add_right 1 hlt) (oT (Nat.lt_add_right 0 hlt) hp)))))))))))) ?_
  refine g_aload_n 100 dMod_init_100 rfl ?_
  refine g_sipush 101 768 dMod_init_101 rfl ?_
  refine g_newa 104 0 768 dMod_init_104 aw_int rfl rfl (fun _ => rfl) (fun _ _ h => h) (by decide) (by decide) (by decide) (by decide) (Nat.le_of_ble_eq_true rfl) (Nat.le_of_ble_eq_true rfl) ?_
  refine g_putr 106 10 12 dMod_init_106 ps_Mod_48 rfl rfl (oT (Nat.lt_add_right 12 hlt) (oT (Nat.lt_add_right 11 hlt) (oT (Nat.lt_add_right 10 hlt) (oT (Nat.lt_add_right 9 hlt) (oT (Nat.lt_add_right 8 hlt) (oT (Nat.lt_add_right 7 hlt) (oT (Nat.lt_add_right 6 hlt) (oT (Nat.lt_add_right 5 hlt) (oT (Nat.lt_add_right 4 hlt) (oT (Nat.lt_add_right 3 hlt) (oT (Nat.lt_add_right 2 hlt) (oT (Nat.lt_add_right 1 hlt) (oT (Nat.lt_add_right 0 hlt) hp))))))))))))) ?_
  refine g_aload_n 109 dMod_init_109 rfl ?_
  refine g_bipush 110 24 dMod_init_110 rfl ?_
  refine g_newa 112 2 24 dMod_init_112 aw_boolean rfl rfl (fun _ => rfl) (fun _ _ h => h) (by decide) (by decide) (by decide) (by decide) (Nat.le_of_ble_eq_true rfl) (Nat.le_of_ble_eq_true rfl) ?_
  refine g_putr 114 10 13 dMod_init_114 ps_Mod_51 rfl rfl (oT (Nat.lt_add_right 13 hlt) (oT (Nat.lt_add_right 12 hlt) (oT (Nat.lt_add_right 11 hlt) (oT (Nat.lt_add_right 10 hlt) (oT (Nat.lt_add_right 9 hlt) (oT (Nat.lt_add_right 8 hlt) (oT (Nat.lt_add_right 7 hlt) (oT (Nat.lt_add_right 6 hlt) (oT (Nat.lt_add_right 5 hlt) (oT (Nat.lt_add_right 4 hlt) (oT (Nat.lt_add_right 3 hlt) (oT (Nat.lt_add_right 2 hlt) (oT (Nat.lt_add_right 1 hlt) (oT (Nat.lt_add_right 0 hlt) hp)))))))))))))) ?_
  refine g_aload_n 117 dMod_init_117 rfl ?_
  refine g_bipush 118 24 dMod_init_118 rfl ?_
  refine g_newa 120 2 24 dMod_init_120 aw_boolean rfl rfl (fun _ => rfl) (fun _ _ h => h) (by decide) (by decide) (by decide) (by decide) (Nat.le_of_ble_eq_true rfl) (Nat.le_of_ble_eq_true rfl) ?_
  refine g_putr 122 10 14 dMod_init_122 ps_Mod_54 rfl rfl (oT (Nat.lt_add_right 14 hlt) (oT (Nat.lt_add_right 13 hlt) (oT (Nat.lt_add_right 12 hlt) (oT (Nat.lt_add_right 11 hlt) (oT (Nat.lt_add_right 10 hlt) (oT (Nat.lt_add_right 9 hlt) (oT (Nat.lt_add_right 8 hlt) (oT (Nat.lt_add_right 7 hlt) (oT (Nat.lt_add_right 6 hlt) (oT (Nat.lt_add_right 5 hlt) (oT (Nat.lt_add_right 4 hlt) (oT (Nat.lt_add_right 3 hlt) (oT (Nat.lt_add_right 2 hlt) (oT (Nat.lt_add_right 1 hlt) (oT (Nat.lt_add_right 0 hlt) hp))))))))))))))) ?_
  refine g_aload_n 125 dMod_init_125 rfl ?_
  refine g_bipush 126 24 dMod_init_126 rfl ?_
  refine g_newa 128 2 24 dMod_init_128 aw_boolean rfl rfl (fun _ => rfl) (fun _ _ h => h) (by decide) (by decide) (by decide) (by decide) (Nat.le_of_ble_eq_true rfl) (Nat.le_of_ble_eq_true rfl) ?_
  refine g_putr 130 10 15 dMod_init_130 ps_Mod_57 rfl rfl (oT (Nat.lt_add_right 15 hlt) (oT (Nat.lt_add_right 14 hlt) (oT (Nat.lt_add_right 13 hlt) (oT (Nat.lt_add_right 12 hlt) (oT (Nat.lt_add_right 11 hlt) (oT (Nat.lt_add_right 10 hlt) (oT (Nat.lt_add_right 9 hlt) (oT (Nat.lt_add_right 8 hlt) (oT (Nat.lt_add_right 7 hlt) (oT (Nat.lt_add_right 6 hlt) (oT (Nat.lt_add_right 5 hlt) (oT (Nat.lt_add_right 4 hlt) (oT (Nat.lt_add_right 3 hlt) (oT (Nat.lt_add_right 2 hlt) (oT (Nat.lt_add_right 1 hlt) (oT (Nat.lt_add_right 0 hlt) hp)))))))))))))))) ?_
  refine g_aload_n 133 dMod_init_133 rfl ?_
  refine g_bipush 134 24 dMod_init_134 rfl ?_
  refine g_newa 136 2 24 dMod_init_136 aw_boolean rfl rfl (fun _ => rfl) (fun _ _ h => h) (by decide) (by decide) (by decide) (by decide) (Nat.le_of_ble_eq_true rfl) (Nat.le_of_ble_eq_true rfl) ?_
  refine g_putr 138 10 16 dMod_init_138 ps_Mod_60 rfl rfl (oT (Nat.lt_add_right 16 hlt) (oT (Nat.lt_add_right 15 hlt) (oT (Nat.lt_add_right 14 hlt) (oT (Nat.lt_add_right 13 hlt) (oT (Nat.lt_add_right 12 hlt) (oT (Nat.lt_add_right 11 hlt) (oT (Nat.lt_add_right 10 hlt) (oT (Nat.lt_add_right 9 hlt) (oT (Nat.lt_add_right 8 hlt) (oT (Nat.lt_add_right 7 hlt) (oT (Nat.lt_add_right 6 hlt) (oT (Nat.lt_add_right 5 hlt) (oT (Nat.lt_add_right 4 hlt) (oT (Nat.lt_add_right 3 hlt) (oT (Nat.lt_add_right 2 hlt) (oT (Nat.lt_add_right 1 hlt) (oT (Nat.lt_add_right 0 hlt) hp))))))))))))))))) ?_
  refine g_aload_n 141 dMod_init_141 rfl ?_
  refine g_bipush 142 24 dMod_init_142 rfl ?_
  refine g_newa 144 2 24 dMod_init_144 aw_boolean rfl rfl (fun _ => rfl) (fun _ _ h => h) (by decide) (by decide) (by decide) (by decide) (Nat.le_of_ble_eq_true rfl) (Nat.le_of_ble_eq_true rfl) ?_
  refine g_putr 146 10 17 dMod_init_146 ps_Mod_63 rfl rfl (oT (Nat.lt_add_right 17 hlt) (oT (Nat.lt_add_right 16 hlt) (oT (Nat.lt_add_right 15 hlt) (oT (Nat.lt_add_right 14 hlt) (oT (Nat.lt_add_right 13 hlt) (oT (Nat.lt_add_right 12 hlt) (oT (Nat.lt_add_right 11 hlt) (oT (Nat.lt_add_right 10 hlt) (oT (Nat.lt_add_right 9 hlt) (oT (Nat.lt_add_right 8 hlt) (oT (Nat.lt_add_right 7 hlt) (oT (Nat.lt_add_right 6 hlt) (oT (Nat.lt_add_right 5 hlt) (oT (Nat.lt_add_right 4 hlt) (oT (Nat.lt_add_right 3 hlt) (oT (Nat.lt_add_right 2 hlt) (oT (Nat.lt_add_right 1 hlt) (oT (Nat.lt_add_right 0 hlt) hp)))))))))))))))))) ?_
  refine g_aload_n 149 dMod_init_149 rfl ?_
  refine g_bipush 150 24 dMod_init_150 rfl ?_
  refine g_newa 152 2 24 dMod_init_152 aw_boolean rfl rfl (fun _ => rfl) (fun _ _ h => h) (by decide) (by decide) (by decide) (by decide) (Nat.le_of_ble_eq_true rfl) (Nat.le_of_ble_eq_true rfl) ?_
  refine g_putr 154 10 18 dMod_init_154 ps_Mod_66 rfl rfl (oT (Nat.lt_add_right 18 hlt) (oT (Nat.lt_add_right 17 hlt) (oT (Nat.lt_add_right 16 hlt) (oT (Nat.lt_add_right 15 hlt) (oT (Nat.lt_add_right 14 hlt) (oT (Nat.lt_add_right 13 hlt) (oT (Nat.lt_add_right 12 hlt) (oT (Nat.lt_add_right 11 hlt) (oT (Nat.lt_add_right 10 hlt) (oT (Nat.lt_add_right 9 hlt) (oT (Nat.lt_add_right 8 hlt) (oT (Nat.lt_add_right 7 hlt) (oT (Nat.lt_add_right 6 hlt) (oT (Nat.lt_add_right 5 hlt) (oT (Nat.lt_add_right 4 hlt) (oT (Nat.lt_add_right 3 hlt) (oT (Nat.lt_add_right 2 hlt) (oT (Nat.lt_add_right 1 hlt) (oT (Nat.lt_add_right 0 hlt) hp))))))))))))))))))) ?_
  refine g_aload_n 157 dMod_init_157 rfl ?_
  refine g_bipush 158 24 dMod_init_158 rfl ?_
  refine g_newa 160 2 24 dMod_init_160 aw_boolean rfl rfl (fun _ => rfl) (fun _ _ h => h) (by decide) (by decide) (by decide) (by decide) (Nat.le_of_ble_eq_true rfl) (Nat.le_of_ble_eq_true rfl) ?_
  refine g_putr 162 10 19 dMod_init_162 ps_Mod_69 rfl rfl (oT (Nat.lt_add_right 19 hlt) (oT (Nat.lt_add_right 18 hlt) (oT (Nat.lt_add_right 17 hlt) (oT (Nat.lt_add_right 16 hlt) (oT (Nat.lt_add_right 15 hlt) (oT (Nat.lt_add_right 14 hlt) (oT (Nat.lt_add_right 13 hlt) (oT (Nat.lt_add_right 12 hlt) (oT (Nat.lt_add_right 11 hlt) (oT (Nat.lt_add_right 10 hlt) (oT (Nat.lt_add_right 9 hlt) (oT (Nat.lt_add_right 8 hlt) (oT (Nat.lt_add_right 7 hlt) (oT (Nat.lt_add_right 6 hlt) (oT (Nat.lt_add_right 5 hlt) (oT (Nat.lt_add_right 4 hlt) (oT (Nat.lt_add_right 3 hlt) (oT (Nat.lt_add_right 2 hlt) (oT (Nat.lt_add_right 1 hlt) (oT (Nat.lt_add_right 0 hlt) hp)))))))))))))))))))) ?_
  refine g_aload_n 165 dMod_init_165 rfl ?_
  refine g_bipush 166 24 dMod_init_166 rfl ?_
  refine g_newa 168 0 24 dMod_init_168 aw_int rfl rfl (fun _ => rfl) (fun _ _ h => h) (by decide) (by decide) (by decide) (by decide) (Nat.le_of_ble_eq_true rfl) (Nat.le_of_ble_eq_true rfl) ?_
  refine g_putr 170 10 20 dMod_init_170 ps_Mod_72 rfl rfl (oT (Nat.lt_add_right 20 hlt) (oT (Nat.lt_add_right 19 hlt) (oT (Nat.lt_add_right 18 hlt) (oT (Nat.lt_add_right 17 hlt) (oT (Nat.lt_add_right 16 hlt) (oT (Nat.lt_add_right 15 hlt) (oT (Nat.lt_add_right 14 hlt) (oT (Nat.lt_add_right 13 hlt) (oT (Nat.lt_add_right 12 hlt) (oT (Nat.lt_add_right 11 hlt) (oT (Nat.lt_add_right 10 hlt) (oT (Nat.lt_add_right 9 hlt) (oT (Nat.lt_add_right 8 hlt) (oT (Nat.lt_add_right 7 hlt) (oT (Nat.lt_add_right 6 hlt) (oT (Nat.lt_add_right 5 hlt) (oT (Nat.lt_add_right 4 hlt) (oT (Nat.lt_add_right 3 hlt) (oT (Nat.lt_add_right 2 hlt) (oT (Nat.lt_add_right 1 hlt) (oT (Nat.lt_add_right 0 hlt) hp))))))))))))))))))))) ?_
  refine g_aload_n 173 dMod_init_173 rfl ?_
  refine g_bipush 174 24 dMod_init_174 rfl ?_
  refine g_newa 176 0 24 dMod_init_176 aw_int rfl rfl (fun _ => rfl) (fun _ _ h => h) (by decide) (by decide) (by decide) (by decide) (Nat.le_of_ble_eq_true rfl) (Nat.le_of_ble_eq_true rfl) ?_
  refine g_putr 178 10 21 dMod_init_178 ps_Mod_75 rfl rfl (oT (Nat.lt_add_right 21 hlt) (oT (Nat.lt_add_right 20 hlt) (oT (Nat.lt_add_right 19 hlt) (oT (Nat.lt_add_right 18 hlt) (oT (Nat.lt_add_right 17 hlt) (oT (Nat.lt_add_right 16 hlt) (oT (Nat.lt_add_right 15 hlt) (oT (Nat.lt_add_right 14 hlt) (oT (Nat.lt_add_right 13 hlt) (oT (Nat.lt_add_right 12 hlt) (oT (Nat.lt_add_right 11 hlt) (oT (Nat.lt_add_right 10 hlt) (oT (Nat.lt_add_right 9 hlt) (oT (Nat.lt_add_right 8 hlt) (oT (Nat.lt_add_right 7 hlt) (oT (Nat.lt_add_right 6 hlt) (oT (Nat.lt_add_right 5 hlt) (oT (Nat.lt_add_right 4 hlt) (oT (Nat.lt_add_right 3 hlt) (oT (Nat.lt_add_right 2 hlt) (oT (Nat.lt_add_right 1 hlt) (oT (Nat.lt_add_right 0 hlt) hp)))))))))))))))))))))) ?_
  refine g_aload_n 181 dMod_init_181 rfl ?_
  refine g_bipush 182 24 dMod_init_182 rfl ?_
  refine g_newa 184 0 24 dMod_init_184 aw_int rfl rfl (fun _ => rfl) (fun _ _ h => h) (by decide) (by decide) (by decide) (by decide) (Nat.le_of_ble_eq_true rfl) (Nat.le_of_ble_eq_true rfl) ?_
  refine g_putr 186 10 22 dMod_init_186 ps_Mod_78 rfl rfl (oT (Nat.lt_add_right 22 hlt) (oT (Nat.lt_add_right 21 hlt) (oT (Nat.lt_add_right 20 hlt) (oT (Nat.lt_add_right 19 hlt) (oT (Nat.lt_add_right 18 hlt) (oT (Nat.lt_add_right 17 hlt) (oT (Nat.lt_add_right 16 hlt) (oT (Nat.lt_add_right 15 hlt) (oT (Nat.lt_add_right 14 hlt) (oT (Nat.lt_add_right 13 hlt) (oT (Nat.lt_add_right 12 hlt) (oT (Nat.lt_add_right 11 hlt) (oT (Nat.lt_add_right 10 hlt) (oT (Nat.lt_add_right 9 hlt) (oT (Nat.lt_add_right 8 hlt) (oT (Nat.lt_add_right 7 hlt) (oT (Nat.lt_add_right 6 hlt) (oT (Nat.lt_add_right 5 hlt) (oT (Nat.lt_add_right 4 hlt) (oT (Nat.lt_add_right 3 hlt) (oT (Nat.lt_add_right 2 hlt) (oT (Nat.lt_add_right 1 hlt) (oT (Nat.lt_add_right 0 hlt) hp))))))))))))))))))))))) ?_
  refine g_aload_n 189 dMod_init_189 rfl ?_
  refine g_bipush 190 24 dMod_init_190 rfl ?_
  refine g_newa 192 0 24 dMod_init_192 aw_int rfl rfl (fun _ => rfl) (fun _ _ h => h) (by decide) (by decide) (by decide) (by decide) (Nat.le_of_ble_eq_true rfl) (Nat.le_of_ble_eq_true rfl) ?_
  refine g_putr 194 10 23 dMod_init_194 ps_Mod_81 rfl rfl (oT (Nat.lt_add_right 23 hlt) (oT (Nat.lt_add_right 22 hlt) (oT (Nat.lt_add_right 21 hlt) (oT (Nat.lt_add_right 20 hlt) (oT (Nat.lt_add_right 19 hlt) (oT (Nat.lt_add_right 18 hlt) (oT (Nat.lt_add_right 17 hlt) (oT (Nat.lt_add_right 16 hlt) (oT (Nat.lt_add_right 15 hlt) (oT (Nat.lt_add_right 14 hlt) (oT (Nat.lt_add_right 13 hlt) (oT (Nat.lt_add_right 12 hlt) (oT (Nat.lt_add_right 11 hlt) (oT (Nat.lt_add_right 10 hlt) (oT (Nat.lt_add_right 9 hlt) (oT (Nat.lt_add_right 8 hlt) (oT (Nat.lt_add_right 7 hlt) (oT (Nat.lt_add_right 6 hlt) (oT (Nat.lt_add_right 5 hlt) (oT (Nat.lt_add_right 4 hlt) (oT (Nat.lt_add_right 3 hlt) (oT (Nat.lt_add_right 2 hlt) (oT (Nat.lt_add_right 1 hlt) (oT (Nat.lt_add_right 0 hlt) hp)))))))))))))))))))))))) ?_
  refine g_aload_n 197 dMod_init_197 rfl ?_
  refine g_bipush 198 24 dMod_init_198 rfl ?_
  refine g_newa 200 0 24 dMod_init_200 aw_int rfl rfl (fun _ => rfl) (fun _ _ h => h) (by decide) (by decide) (by decide) (by decide) (Nat.le_of_ble_eq_true rfl) (Nat.le_of_ble_eq_true rfl) ?_
  refine g_putr 202 10 24 dMod_init_202 ps_Mod_84 rfl rfl (oT (Nat.lt_add_right 24 hlt) (oT (Nat.lt_add_right 23 hlt) (oT (Nat.lt_add_right 22 hlt) (oT (Nat.lt_add_right 21 hlt) (oT (Nat.lt_add_right 20 hlt) (oT (Nat.lt_add_right 19 hlt) (oT (Nat.lt_add_right 18 hlt) (oT (Nat.lt_add_right 17 hlt) (oT (Nat.lt_add_right 16 hlt) (oT (Nat.lt_add_right 15 hlt) (oT (Nat.lt_add_right 14 hlt) (oT (Nat.lt_add_right 13 hlt) (oT (Nat.lt_add_right 12 hlt) (oT (Nat.lt_add_right 11 hlt) (oT (Nat.lt_add_right 10 hlt) (oT (Nat.lt_add_right 9 hlt) (oT (Nat.lt_add_right 8 hlt) (oT (Nat.lt_add_right 7 hlt) (oT (Nat.lt_add_right 6 hlt) (oT (Nat.lt_add_right 5 hlt) (oT (Nat.lt_add_right 4 hlt) (oT (Nat.lt_add_right 3 hlt) (oT (Nat.lt_add_right 2 hlt) (oT (Nat.lt_add_right 1 hlt) (oT (Nat.lt_add_right 0 hlt) hp))))))))))))))))))))))))) ?_
  refine g_aload_n 205 dMod_init_205 rfl ?_
  refine g_sipush 206 144 dMod_init_206 rfl ?_
  refine g_newa 209 0 144 dMod_init_209 aw_int rfl rfl (fun _ => rfl) (fun _ _ h => h) (by decide) (by decide) (by decide) (by decide) (Nat.le_of_ble_eq_true rfl) (Nat.le_of_ble_eq_true rfl) ?_
  refine g_putr 211 10 25 dMod_init_211 ps_Mod_87 rfl rfl (oT (Nat.lt_add_right 25 hlt) (oT (Nat.lt_add_right 24 hlt) (oT (Nat.lt_add_right 23 hlt) (oT (Nat.lt_add_right 22 hlt) (oT (Nat.lt_add_right 21 hlt) (oT (Nat.lt_add_right 20 hlt) (oT (Nat.lt_add_right 19 hlt) (oT (Nat.lt_add_right 18 hlt) (oT (Nat.lt_add_right 17 hlt) (oT (Nat.lt_add_right 16 hlt) (oT (Nat.lt_add_right 15 hlt) (oT (Nat.lt_add_right 14 hlt) (oT (Nat.lt_add_right 13 hlt) (oT (Nat.lt_add_right 12 hlt) (oT (Nat.lt_add_right 11 hlt) (oT (Nat.lt_add_right 10 hlt) (oT (Nat.lt_add_right 9 hlt) (oT (Nat.lt_add_right 8 hlt) (oT (Nat.lt_add_right 7 hlt) (oT (Nat.lt_add_right 6 hlt) (oT (Nat.lt_add_right 5 hlt) (oT (Nat.lt_add_right 4 hlt) (oT (Nat.lt_add_right 3 hlt) (oT (Nat.lt_add_right 2 hlt) (oT (Nat.lt_add_right 1 hlt) (oT (Nat.lt_add_right 0 hlt) hp)))))))))))))))))))))))))) ?_
  refine g_aload_n 214 dMod_init_214 rfl ?_
  refine g_sipush 215 144 dMod_init_215 rfl ?_
  refine g_newa 218 0 144 dMod_init_218 aw_int rfl rfl (fun _ => rfl) (fun _ _ h => h) (by decide) (by decide) (by decide) (by decide) (Nat.le_of_ble_eq_true rfl) (Nat.le_of_ble_eq_true rfl) ?_
  refine g_putr 220 10 26 dMod_init_220 ps_Mod_90 rfl rfl (oT (Nat.lt_add_right 26 hlt) (oT (Nat.lt_add_right 25 hlt) (oT (Nat.lt_add_right 24 hlt) (oT (Nat.lt_add_right 23 hlt) (oT (Nat.lt_add_right 22 hlt) (oT (Nat.lt_add_right 21 hlt) (oT (Nat.lt_add_right 20 hlt) (oT (Nat.lt_add_right 19 hlt) (oT (Nat.lt_add_right 18 hlt) (oT (Nat.lt_add_right 17 hlt) (oT (Nat.lt_add_right 16 hlt) (oT (Nat.lt_add_right 15 hlt) (oT (Nat.lt_add_right 14 hlt) (oT (Nat.lt_add_right 13 hlt) (oT (Nat.lt_add_right 12 hlt) (oT (Nat.lt_add_right 11 hlt) (oT (Nat.lt_add_right 10 hlt) (oT (Nat.lt_add_right 9 hlt) (oT (Nat.lt_add_right 8 hlt) (oT (Nat.lt_add_right 7 hlt) (oT (Nat.lt_add_right 6 hlt) (oT (Nat.lt_add_right 5 hlt) (oT (Nat.lt_add_right 4 hlt) (oT (Nat.lt_add_right 3 hlt) (oT (Nat.lt_add_right 2 hlt) (oT (Nat.lt_add_right 1 hlt) (oT (Nat.lt_add_right 0 hlt) hp))))))))))))))))))))))))))) ?_
  refine g_aload_n 223 dMod_init_223 rfl ?_
  refine g_bipush 224 24 dMod_init_224 rfl ?_
  refine g_newa 226 0 24 dMod_init_226 aw_int rfl rfl (fun _ => rfl) (fun _ _ h => h) (by decide) (by decide) (by decide) (by decide) (Nat.le_of_ble_eq_true rfl) (Nat.le_of_ble_eq_true rfl) ?_
  refine g_putr 228 10 27 dMod_init_228 ps_Mod_93 rfl rfl (oT (Nat.lt_add_right 27 hlt) (oT (Nat.lt_add_right 26 hlt) (oT (Nat.lt_add_right 25 hlt) (oT (Nat.lt_add_right 24 hlt) (oT (Nat.lt_add_right 23 hlt) (oT (Nat.lt_add_right 22 hlt) (oT (Nat.lt_add_right 21 hlt) (oT (Nat.lt_add_right 20 hlt) (oT (Nat.lt_add_right 19 hlt) (oT (Nat.lt_add_right 18 hlt) (oT (Nat.lt_add_right 17 hlt) (oT (Nat.lt_add_right 16 hlt) (oT (Nat.lt_add_right 15 hlt) (oT (Nat.lt_add_right 14 hlt) (oT (Nat.lt_add_right 13 hlt) (oT (Nat.lt_add_right 12 hlt) (oT (Nat.lt_add_right 11 hlt) (oT (Nat.lt_add_right 10 hlt) (oT (Nat.lt_add_right 9 hlt) (oT (Nat.lt_add_right 8 hlt) (oT (Nat.lt_add_right 7 hlt) (oT (Nat.lt_add_right 6 hlt) (oT (Nat.lt_add_right 5 hlt) (oT (Nat.lt_add_right 4 hlt) (oT (Nat.lt_add_right 3 hlt) (oT (Nat.lt_add_right 2 hlt) (oT (Nat.lt_add_right 1 hlt) (oT (Nat.lt_add_right 0 hlt) hp)))))))))))))))))))))))))))) ?_
  refine g_aload_n 231 dMod_init_231 rfl ?_
  refine g_sipush 232 768 dMod_init_232 rfl ?_
  refine g_newa 235 0 768 dMod_init_235 aw_int rfl rfl (fun _ => rfl) (fun _ _ h => h) (by decide) (by decide) (by decide) (by decide) (Nat.le_of_ble_eq_true rfl) (Nat.le_of_ble_eq_true rfl) ?_
  refine g_putr 237 10 28 dMod_init_237 ps_Mod_96 rfl rfl (oT (Nat.lt_add_right 28 hlt) (oT (Nat.lt_add_right 27 hlt) (oT (Nat.lt_add_right 26 hlt) (oT (Nat.lt_add_right 25 hlt) (oT (Nat.lt_add_right 24 hlt) (oT (Nat.lt_add_right 23 hlt) (oT (Nat.lt_add_right 22 hlt) (oT (Nat.lt_add_right 21 hlt) (oT (Nat.lt_add_right 20 hlt) (oT (Nat.lt_add_right 19 hlt) (oT (Nat.lt_add_right 18 hlt) (oT (Nat.lt_add_right 17 hlt) (oT (Nat.lt_add_right 16 hlt) (oT (Nat.lt_add_right 15 hlt) (oT (Nat.lt_add_right 14 hlt) (oT (Nat.lt_add_right 13 hlt) (oT (Nat.lt_add_right 12 hlt) (oT (Nat.lt_add_right 11 hlt) (oT (Nat.lt_add_right 10 hlt) (oT (Nat.lt_add_right 9 hlt) (oT (Nat.lt_add_right 8 hlt) (oT (Nat.lt_add_right 7 hlt) (oT (Nat.lt_add_right 6 hlt) (oT (Nat.lt_add_right 5 hlt) (oT (Nat.lt_add_right 4 hlt) (oT (Nat.lt_add_right 3 hlt) (oT (Nat.lt_add_right 2 hlt) (oT (Nat.lt_add_right 1 hlt) (oT (Nat.lt_add_right 0 hlt) hp))))))))))))))))))))))))))))) ?_
  refine g_aload_n 240 dMod_init_240 rfl ?_
  refine g_iconst 241 2 dMod_init_241 rfl ?_
  refine g_newa 242 0 2 dMod_init_242 aw_int rfl rfl (fun _ => rfl) (fun _ _ h => h) (by decide) (by decide) (by decide) (by decide) (Nat.le_of_ble_eq_true rfl) (Nat.le_of_ble_eq_true rfl) ?_
  refine g_putr 244 10 29 dMod_init_244 ps_Mod_99 rfl rfl (oT (Nat.lt_add_right 29 hlt) (oT (Nat.lt_add_right 28 hlt) (oT (Nat.lt_add_right 27 hlt) (oT (Nat.lt_add_right 26 hlt) (oT (Nat.lt_add_right 25 hlt) (oT (Nat.lt_add_right 24 hlt) (oT (Nat.lt_add_right 23 hlt) (oT (Nat.lt_add_right 22 hlt) (oT (Nat.lt_add_right 21 hlt) (oT (Nat.lt_add_right 20 hlt) (oT (Nat.lt_add_right 19 hlt) (oT (Nat.lt_add_right 18 hlt) (oT (Nat.lt_add_right 17 hlt) (oT (Nat.lt_add_right 16 hlt) (oT (Nat.lt_add_right 15 hlt) (oT (Nat.lt_add_right 14 hlt) (oT (Nat.lt_add_right 13 hlt) (oT (Nat.lt_add_right 12 hlt) (oT (Nat.lt_add_right 11 hlt) (oT (Nat.lt_add_right 10 hlt) (oT (Nat.lt_add_right 9 hlt) (oT (Nat.lt_add_right 8 hlt) (oT (Nat.lt_add_right 7 hlt) (oT (Nat.lt_add_right 6 hlt) (oT (Nat.lt_add_right 5 hlt) (oT (Nat.lt_add_right 4 hlt) (oT (Nat.lt_add_right 3 hlt) (oT (Nat.lt_add_right 2 hlt) (oT (Nat.lt_add_right 1 hlt) (oT (Nat.lt_add_right 0 hlt) hp)))))))))))))))))))))))))))))) ?_
  refine g_aload_n 247 dMod_init_247 rfl ?_
  refine g_bipush 248 80 dMod_init_248 rfl ?_
  refine g_newa 250 0 80 dMod_init_250 aw_int rfl rfl (fun _ => rfl) (fun _ _ h => h) (by decide) (by decide) (by decide) (by decide) (Nat.le_of_ble_eq_true rfl) (Nat.le_of_ble_eq_true rfl) ?_
  refine g_putr 252 10 30 dMod_init_252 ps_Mod_102 rfl rfl (oT (Nat.lt_add_right 30 hlt) (oT (Nat.lt_add_right 29 hlt) (oT (Nat.lt_add_right 28 hlt) (oT (Nat.lt_add_right 27 hlt) (oT (Nat.lt_add_right 26 hlt) (oT (Nat.lt_add_right 25 hlt) (oT (Nat.lt_add_right 24 hlt) (oT (Nat.lt_add_right 23 hlt) (oT (Nat.lt_add_right 22 hlt) (oT (Nat.lt_add_right 21 hlt) (oT (Nat.lt_add_right 20 hlt) (oT (Nat.lt_add_right 19 hlt) (oT (Nat.lt_add_right 18 hlt) (oT (Nat.lt_add_right 17 hlt) (oT (Nat.lt_add_right 16 hlt) (oT (Nat.lt_add_right 15 hlt) (oT (Nat.lt_add_right 14 hlt) (oT (Nat.lt_add_right 13 hlt) (oT (Nat.lt_add_right 12 hlt) (oT (Nat.lt_add_right 11 hlt) (oT (Nat.lt_add_right 10 hlt) (oT (Nat.lt_add_right 9 hlt) (oT (Nat.lt_add_right 8 hlt) (oT (Nat.lt_add_right 7 hlt) (oT (Nat.lt_add_right 6 hlt) (oT (Nat.lt_add_right 5 hlt) (oT (Nat.lt_add_right 4 hlt) (oT (Nat.lt_add_right 3 hlt) (oT (Nat.lt_add_right 2 hlt) (oT (Nat.lt_add_right 1 hlt) (oT (Nat.lt_add_right 0 hlt) hp))))))))))))))))))))))))))))))) ?_
  refine g_aload_n 255 dMod_init_255 rfl ?_
  refine g_bipush 256 80 dMod_init_256 rfl ?_
  refine g_newa 258 0 80 dMod_init_258 aw_int rfl rfl (fun _ => rfl) (fun _ _ h => h) (by decide) (by decide) (by decide) (by decide) (Nat.le_of_ble_eq_true rfl) (Nat.le_of_ble_eq_true rfl) ?_
  refine g_putr 260 10 31 dMod_init_260 ps_Mod_105 rfl rfl (oT (Nat.lt_add_right 31 hlt) (oT (Nat.lt_add_right 30 hlt) (oT (Nat.lt_add_right 29 hlt) (oT (Nat.lt_add_right 28 hlt) (oT (Nat.lt_add_right 27 hlt) (oT (Nat.lt_add_right 26 hlt) (oT (Nat.lt_add_right 25 hlt) (oT (Nat.lt_add_right 24 hlt) (oT (Nat.lt_add_right 23 hlt) (oT (Nat.lt_add_right 22 hlt) (oT (Nat.lt_add_right 21 hlt) (oT (Nat.lt_add_right 20 hlt) (oT (Nat.lt_add_right 19 hlt) (oT (Nat.lt_add_right 18 hlt) (oT (Nat.lt_add_right 17 hlt) (oT (Nat.lt_add_right 16 hlt) (oT (Nat.lt_add_right 15 hlt) (oT (Nat.lt_add_right 14 hlt) (oT (Nat.lt_add_right 13 hlt) (oT (Nat.lt_add_right 12 hlt) (oT (Nat.lt_add_right 11 hlt) (oT (Nat.lt_add_right 10 hlt) (oT (Nat.lt_add_right 9 hlt) (oT (Nat.lt_add_right 8 hlt) (oT (Nat.lt_add_right 7 hlt) (oT (Nat.lt_add_right 6 hlt) (oT (Nat.lt_add_right 5 hlt) (oT (Nat.lt_add_right 4 hlt) (oT (Nat.lt_add_right 3 hlt) (oT (Nat.lt_add_right 2 hlt) (oT (Nat.lt_add_right 1 hlt) (oT (Nat.lt_add_right 0 hlt) hp)))))))))))))))))))))))))))))))) ?_
  refine g_aload_n 263 dMod_init_263 rfl ?_
  refine g_iconst 264 2 dMod_init_264 rfl ?_
  refine g_newa 265 0 2 dMod_init_265 aw_int rfl rfl (fun _ => rfl) (fun _ _ h => h) (by decide) (by decide) (by decide) (by decide) (Nat.le_of_ble_eq_true rfl) (Nat.le_of_ble_eq_true rfl) ?_
  refine g_putr 267 10 32 dMod_init_267 ps_Mod_108 rfl rfl (oT (Nat.lt_add_right 32 hlt) (oT (Nat.lt_add_right 31 hlt) (oT (Nat.lt_add_right 30 hlt) (oT (Nat.lt_add_right 29 hlt) (oT (Nat.lt_add_right 28 hlt) (oT (Nat.lt_add_right 27 hlt) (oT (Nat.lt_add_right 26 hlt) (oT (Nat.lt_add_right 25 hlt) (oT (Nat.lt_add_right 24 hlt) (oT (Nat.lt_add_right 23 hlt) (oT (Nat.lt_add_right 22 hlt) (oT (Nat.lt_add_right 21 hlt) (oT (Nat.lt_add_right 20 hlt) (oT (Nat.lt_add_right 19 hlt) (oT (Nat.lt_add_right 18 hlt) (oT (Nat.lt_add_right 17 hlt) (oT (Nat.lt_add_right 16 hlt) (oT (Nat.lt_add_right 15 hlt) (oT (Nat.lt_add_right 14 hlt) (oT (Nat.lt_add_right 13 hlt) (oT (Nat.lt_add_right 12 hlt) (oT (Nat.lt_add_right 11 hlt) (oT (Nat.lt_add_right 10 hlt) (oT (Nat.lt_add_right 9 hlt) (oT (Nat.lt_add_right 8 hlt) (oT (Nat.lt_add_right 7 hlt) (oT (Nat.lt_add_right 6 hlt) (oT (Nat.lt_add_right 5 hlt) (oT (Nat.lt_add_right 4 hlt) (oT (Nat.lt_add_right 3 hlt) (oT (Nat.lt_add_right 2 hlt) (oT (Nat.lt_add_right 1 hlt) (oT (Nat.lt_add_right 0 hlt) hp))))))))))))))))))))))))))))))))) ?_
  refine g_aload_n 270 dMod_init_270 rfl ?_
  refine g_iconst 271 2 dMod_init_271 rfl ?_
  refine g_newa 272 0 2 dMod_init_272 aw_int rfl rfl (fun _ => rfl) (fun _ _ h => h) (by decide) (by decide) (by decide) (by decide) (Nat.le_of_ble_eq_true rfl) (Nat.le_of_ble_eq_true rfl) ?_
  refine g_putr 274 10 33 dMod_init_274 ps_Mod_111 rfl rfl (oT (Nat.lt_add_right 33 hlt) (oT (Nat.lt_add_right 32 hlt) (oT (Nat.lt_add_right 31 hlt) (oT (Nat.lt_add_right 30 hlt) (oT (Nat.lt_add_right 29 hlt) (oT (Nat.lt_add_right 28 hlt) (oT (Nat.lt_add_right 27 hlt) (oT (Nat.lt_add_right 26 hlt) (oT (Nat.lt_add_right 25 hlt) (oT (Nat.lt_add_right 24 hlt) (oT (Nat.lt_add_right 23 hlt) (oT (Nat.lt_add_right 22 hlt) (oT (Nat.lt_add_right 21 hlt) (oT (Nat.lt_add_right 20 hlt) (oT (Nat.lt_add_right 19 hlt) (oT (Nat.lt_add_right 18 hlt) (oT (Nat.lt_add_right 17 hlt) (oT (Nat.lt_add_right 16 hlt) (oT (Nat.lt_add_right 15 hlt) (oT (Nat.lt_add_right 14 hlt) (oT (Nat.lt_add_right 13 hlt) (oT (Nat.lt_add_right 12 hlt) (oT (Nat.lt_add_right 11 hlt) (oT (Nat.lt_add_right 10 hlt) (oT (Nat.lt_add_right 9 hlt) (oT (Nat.lt_add_right 8 hlt) (oT (Nat.lt_add_right 7 hlt) (oT (Nat.lt_add_right 6 hlt) (oT (Nat.lt_add_right 5 hlt) (oT (Nat.lt_add_right 4 hlt) (oT (Nat.lt_add_right 3 hlt) (oT (Nat.lt_add_right 2 hlt) (oT (Nat.lt_add_right 1 hlt) (oT (Nat.lt_add_right 0 hlt) hp)))))))))))))))))))))))))))))))))) ?_
  refine g_aload_n 277 dMod_init_277 rfl ?_
  refine g_iconst 278 2 dMod_init_278 rfl ?_
  refine g_newa 279 0 2 dMod_init_279 aw_int rfl rfl (fun _ => rfl) (fun _ _ h => h) (by decide) (by decide) (by decide) (by decide) (Nat.le_of_ble_eq_true rfl) (Nat.le_of_ble_eq_true rfl) ?_
  refine g_putr 281 10 34 dMod_init_281 ps_Mod_114 rfl rfl (oT (Nat.lt_add_right 34 hlt) (oT (Nat.lt_add_right 33 hlt) (oT (Nat.lt_add_right 32 hlt) (oT (Nat.lt_add_right 31 hlt) (oT (Nat.lt_add_right 30 hlt) (oT (Nat.lt_add_right 29 hlt) (oT (Nat.lt_add_right 28 hlt) (oT (Nat.lt_add_right 27 hlt) (oT (Nat.lt_add_right 26 hlt) (oT (Nat.lt_add_right 25 hlt) (oT (Nat.lt_add_right 24 hlt) (oT (Nat.lt_add_right 23 hlt) (oT (Nat.lt_add_right 22 hlt) (oT (Nat.lt_add_right 21 hlt) (oT (Nat.lt_add_right 20 hlt) (oT (Nat.lt_add_right 19 hlt) (oT (Nat.lt_add_right 18 hlt) (oT (Nat.lt_add_right 17 hlt) (oT (Nat.lt_add_right 16 hlt) (oT (Nat.lt_add_right 15 hlt) (oT (Nat.lt_add_right 14 hlt) (oT (Nat.lt_add_right 13 hlt) (oT (Nat.lt_add_right 12 hlt) (oT (Nat.lt_add_right 11 hlt) (oT (Nat.lt_add_right 10 hlt) (oT (Nat.lt_add_right 9 hlt) (oT (Nat.lt_add_right 8 hlt) (oT (Nat.lt_add_right 7 hlt) (oT (Nat.lt_add_right 6 hlt) (oT (Nat.lt_add_right 5 hlt) (oT (Nat.lt_add_right 4 hlt) (oT (Nat.lt_add_right 3 hlt) (oT (Nat.lt_add_right 2 hlt) (oT (Nat.lt_add_right 1 hlt) (oT (Nat.lt_add_right 0 hlt) hp))))))))))))))))))))))))))))))))))) ?_
  refine g_aload_n 284 dMod_init_284 rfl ?_
  refine g_bipush 285 6 dMod_init_285 rfl ?_
  refine g_newa 287 0 6 dMod_init_287 aw_int rfl rfl (fun _ => rfl) (fun _ _ h => h) (by decide) (by decide) (by decide) (by decide) (Nat.le_of_ble_eq_true rfl) (Nat.le_of_ble_eq_true rfl) ?_
  refine g_putr 289 10 36 dMod_init_289 ps_Mod_117 rfl rfl (oT (Nat.lt_add_right 35 hlt) (oT (Nat.lt_add_right 34 hlt) (oT (Nat.lt_add_right 33 hlt) (oT (Nat.lt_add_right 32 hlt) (oT (Nat.lt_add_right 31 hlt) (oT (Nat.lt_add_right 30 hlt) (oT (Nat.lt_add_right 29 hlt) (oT (Nat.lt_add_right 28 hlt) (oT (Nat.lt_add_right 27 hlt) (oT (Nat.lt_add_right 26 hlt) (oT (Nat.lt_add_right 25 hlt) (oT (Nat.lt_add_right 24 hlt) (oT (Nat.lt_add_right 23 hlt) (oT (Nat.lt_add_right 22 hlt) (oT (Nat.lt_add_right 21 hlt) (oT (Nat.lt_add_right 20 hlt) (oT (Nat.lt_add_right 19 hlt) (oT (Nat.lt_add_right 18 hlt) (oT (Nat.lt_add_right 17 hlt) (oT (Nat.lt_add_right 16 hlt) (oT (Nat.lt_add_right 15 hlt) (oT (Nat.lt_add_right 14 hlt) (oT (Nat.lt_add_right 13 hlt) (oT (Nat.lt_add_right 12 hlt) (oT (Nat.lt_add_right 11 hlt) (oT (Nat.lt_add_right 10 hlt) (oT (Nat.lt_add_right 9 hlt) (oT (Nat.lt_add_right 8 hlt) (oT (Nat.lt_add_right 7 hlt) (oT (Nat.lt_add_right 6 hlt) (oT (Nat.lt_add_right 5 hlt) (oT (Nat.lt_add_right 4 hlt) (oT (Nat.lt_add_right 3 hlt) (oT (Nat.lt_add_right 2 hlt) (oT (Nat.lt_add_right 1 hlt) (oT (Nat.lt_add_right 0 hlt) hp)))))))))))))))))))))))))))))))))))) ?_
  refine g_aload_n 292 dMod_init_292 rfl ?_
  refine g_bipush 293 6 dMod_init_293 rfl ?_
  refine g_newa 295 0 6 dMod_init_295 aw_int rfl rfl (fun _ => rfl) (fun _ _ h => h) (by decide) (by decide) (by decide) (by decide) (Nat.le_of_ble_eq_true rfl) (Nat.le_of_ble_eq_true rfl) ?_
  refine g_putr 297 10 37 dMod_init_297 ps_Mod_120 rfl rfl (oT (Nat.lt_add_right 36 hlt) (oT (Nat.lt_add_right 35 hlt) (oT (Nat.lt_add_right 34 hlt) (oT (Nat.lt_add_right 33 hlt) (oT (Nat.lt_add_right 32 hlt) (oT (Nat.lt_add_right 31 hlt) (oT (Nat.lt_add_right 30 hlt) (oT (Nat.lt_add_right 29 hlt) (oT (Nat.lt_add_right 28 hlt) (oT (Nat.lt_add_right 27 hlt) (oT (Nat.lt_add_right 26 hlt) (oT (Nat.lt_add_right 25 hlt) (oT (Nat.lt_add_right 24 hlt) (oT (Nat.lt_add_right 23 hlt) (oT (Nat.lt_add_right 22 hlt) (oT (Nat.lt_add_right 21 hlt) (oT (Nat.lt_add_right 20 hlt) (oT (Nat.lt_add_right 19 hlt) (oT (Nat.lt_add_right 18 hlt) (oT (Nat.lt_add_right 17 hlt) (oT (Nat.lt_add_right 16 hlt) (oT (Nat.lt_add_right 15 hlt) (oT (Nat.lt_add_right 14 hlt) (oT (Nat.lt_add_right 13 hlt) (oT (Nat.lt_add_right 12 hlt) (oT (Nat.lt_add_right 11 hlt) (oT (Nat.lt_add_right 10 hlt) (oT (Nat.lt_add_right 9 hlt) (oT (Nat.lt_add_right 8 hlt) (oT (Nat.lt_add_right 7 hlt) (oT (Nat.lt_add_right 6 hlt) (oT (Nat.lt_add_right 5 hlt) (oT (Nat.lt_add_right 4 hlt) (oT (Nat.lt_add_right 3 hlt) (oT (Nat.lt_add_right 2 hlt) (oT (Nat.lt_add_right 1 hlt) (oT (Nat.lt_add_right 0 hlt) hp))))))))))))))))))))))))))))))))))))) ?_
  refine g_aload_n 300 dMod_init_300 rfl ?_
  refine g_iconst 301 2 dMod_init_301 rfl ?_
  refine g_newa 302 2 2 dMod_init_302 aw_boolean rfl rfl (fun _ => rfl) (fun _ _ h => h) (by decide) (by decide) (by decide) (by decide) (Nat.le_of_ble_eq_true rfl) (Nat.le_of_ble_eq_true rfl) ?_
  refine g_putr 304 10 38 dMod_init_304 ps_Mod_123 rfl rfl (oT (Nat.lt_add_right 37 hlt) (oT (Nat.lt_add_right 36 hlt) (oT (Nat.lt_add_right 35 hlt) (oT (Nat.lt_add_right 34 hlt) (oT (Nat.lt_add_right 33 hlt) (oT (Nat.lt_add_right 32 hlt) (oT (Nat.lt_add_right 31 hlt) (oT (Nat.lt_add_right 30 hlt) (oT (Nat.lt_add_right 29 hlt) (oT (Nat.lt_add_right 28 hlt) (oT (Nat.lt_add_right 27 hlt) (oT (Nat.lt_add_right 26 hlt) (oT (Nat.lt_add_right 25 hlt) (oT (Nat.lt_add_right 24 hlt) (oT (Nat.lt_add_right 23 hlt) (oT (Nat.lt_add_right 22 hlt) (oT (Nat.lt_add_right 21 hlt) (oT (Nat.lt_add_right 20 hlt) (oT (Nat.lt_add_right 19 hlt) (oT (Nat.lt_add_right 18 hlt) (oT (Nat.lt_add_right 17 hlt) (oT (Nat.lt_add_right 16 hlt) (oT (Nat.lt_add_right 15 hlt) (oT (Nat.lt_add_right 14 hlt) (oT (Nat.lt_add_right 13 hlt) (oT (Nat.lt_add_right 12 hlt) (oT (Nat.lt_add_right 11 hlt) (oT (Nat.lt_add_right 10 hlt) (oT (Nat.lt_add_right 9 hlt) (oT (Nat.lt_add_right 8 hlt) (oT (Nat.lt_add_right 7 hlt) (oT (Nat.lt_add_right 6 hlt) (oT (Nat.lt_add_right 5 hlt) (oT (Nat.lt_add_right 4 hlt) (oT (Nat.lt_add_right 3 hlt) (oT (Nat.lt_add_right 2 hlt) (oT (Nat.lt_add_right 1 hlt) (oT (Nat.lt_add_right 0 hlt) hp)))))))))))))))))))))))))))))))))))))) ?_
  refine g_aload_n 307 dMod_init_307 rfl ?_
  refine g_iconst 308 2 dMod_init_308 rfl ?_
  refine g_newa 309 0 2 dMod_init_309 aw_int rfl rfl (fun _ => rfl) (fun _ _ h => h) (by decide) (by decide) (by decide) (by decide) (Nat.le_of_ble_eq_true rfl) (Nat.le_of_ble_eq_true rfl) ?_
  refine g_putr 311 10 39 dMod_init_311 ps_Mod_126 rfl rfl (oT (Nat.lt_add_right 38 hlt) (oT (Nat.lt_add_right 37 hlt) (oT (Nat.lt_add_right 36 hlt) (oT (Nat.lt_add_right 35 hlt) (oT (Nat.lt_add_right 34 hlt) (oT (Nat.lt_add_right 33 hlt) (oT (Nat.lt_add_right 32 hlt) (oT (Nat.lt_add_right 31 hlt) (oT (Nat.lt_add_right 30 hlt) (oT (Nat.lt_add_right 29 hlt) (oT (Nat.lt_add_right 28 hlt) (oT (Nat.lt_add_right 27 hlt) (oT (Nat.lt_add_right 26 hlt) (oT (Nat.lt_add_right 25 hlt) (oT (Nat.lt_add_right 24 hlt) (oT (Nat.lt_add_right 23 hlt) (oT (Nat.lt_add_right 22 hlt) (oT (Nat.lt_add_right 21 hlt) (oT (Nat.lt_add_right 20 hlt) (oT (Nat.lt_add_right 19 hlt) (oT (Nat.lt_add_right 18 hlt) (oT (Nat.lt_add_right 17 hlt) (oT (Nat.lt_add_right 16 hlt) (oT (Nat.lt_add_right 15 hlt) (oT (Nat.lt_add_right 14 hlt) (oT (Nat.lt_add_right 13 hlt) (oT (Nat.lt_add_right 12 hlt) (oT (Nat.lt_add_right 11 hlt) (oT (Nat.lt_add_right 10 hlt) (oT (Nat.lt_add_right 9 hlt) (oT (Nat.lt_add_right 8 hlt) (oT (Nat.lt_add_right 7 hlt) (oT (Nat.lt_add_right 6 hlt) (oT (Nat.lt_add_right 5 hlt) (oT (Nat.lt_add_right 4 hlt) (oT (Nat.lt_add_right 3 hlt) (oT (Nat.lt_add_right 2 hlt) (oT (Nat.lt_add_right 1 hlt) (oT (Nat.lt_add_right 0 hlt) hp))))))))))))))))))))))))))))))))))))))) ?_
  refine g_aload_n 314 dMod_init_314 rfl ?_
  refine g_iconst 315 2 dMod_init_315 rfl ?_
  refine g_newa 316 2 2 dMod_init_316 aw_boolean rfl rfl (fun _ => rfl) (fun _ _ h => h) (by decide) (by decide) (by decide) (by decide) (Nat.le_of_ble_eq_true rfl) (Nat.le_of_ble_eq_true rfl) ?_
  refine g_putr 318 10 40 dMod_init_318 ps_Mod_129 rfl rfl (oT (Nat.lt_add_right 39 hlt) (oT (Nat.lt_add_right 38 hlt) (oT (Nat.lt_add_right 37 hlt) (oT (Nat.lt_add_right 36 hlt) (oT (Nat.lt_add_right 35 hlt) (oT (Nat.lt_add_right 34 hlt) (oT (Nat.lt_add_right 33 hlt) (oT (Nat.lt_add_right 32 hlt) (oT (Nat.lt_add_right 31 hlt) (oT (Nat.lt_add_right 30 hlt) (oT (Nat.lt_add_right 29 hlt) (oT (Nat.lt_add_right 28 hlt) (oT (Nat.lt_add_right 27 hlt) (oT (Nat.lt_add_right 26 hlt) (oT (Nat.lt_add_right 25 hlt) (oT (Nat.lt_add_right 24 hlt) (oT (Nat.lt_add_right 23 hlt) (oT (Nat.lt_add_right 22 hlt) (oT (Nat.lt_add_right 21 hlt) (oT (Nat.lt_add_right 20 hlt) (oT (Nat.lt_add_right 19 hlt) (oT (Nat.lt_add_right 18 hlt) (oT (Nat.lt_add_right 17 hlt) (oT (Nat.lt_add_right 16 hlt) (oT (Nat.lt_add_right 15 hlt) (oT (Nat.lt_add_right 14 hlt) (oT (Nat.lt_add_right 13 hlt) (oT (Nat.lt_add_right 12 hlt) (oT (Nat.lt_add_right 11 hlt) (oT (Nat.lt_add_right 10 hlt) (oT (Nat.lt_add_right 9 hlt) (oT (Nat.lt_add_right 8 hlt) (oT (Nat.lt_add_right 7 hlt) (oT (Nat.lt_add_right 6 hlt) (oT (Nat.lt_add_right 5 hlt) (oT (Nat.lt_add_right 4 hlt) (oT (Nat.lt_add_right 3 hlt) (oT (Nat.lt_add_right 2 hlt) (oT (Nat.lt_add_right 1 hlt) (oT (Nat.lt_add_right 0 hlt) hp)))))))))))))))))))))))))))))))))))))))) ?_
  refine g_aload_n 321 dMod_init_321 rfl ?_
  refine g_iconst 322 2 dMod_init_322 rfl ?_
  refine g_newa 323 0 2 dMod_init_323 aw_int rfl rfl (fun _ => rfl) (fun _ _ h => h) (by decide) (by decide) (by decide) (by decide) (Nat.le_of_ble_eq_true rfl) (Nat.le_of_ble_eq_true rfl) ?_
  refine g_putr 325 10 41 dMod_init_325 ps_Mod_132 rfl rfl (oT (Nat.lt_add_right 40 hlt) (oT (Nat.lt_add_right 39 hlt) (oT (Nat.lt_add_right 38 hlt) (oT (Nat.lt_add_right 37 hlt) (oT (Nat.lt_add_right 36 hlt) (oT (Nat.lt_add_right 35 hlt) (oT (Nat.lt_add_right 34 hlt) (oT (Nat.lt_add_right 33 hlt) (oT (Nat.lt_add_right 32 hlt) (oT (Nat.lt_add_right 31 hlt) (oT (Nat.lt_add_right 30 hlt) (oT (Nat.lt_add_right 29 hlt) (oT (Nat.lt_add_right 28 hlt) (oT (Nat.lt_add_right 27 hlt) (oT (Nat.lt_add_right 26 hlt) (oT (Nat.lt_add_right 25 hlt) (oT (Nat.lt_add_right 24 hlt) (oT (Nat.lt_add_right 23 hlt) (oT (Nat.lt_add_right 22 hlt) (oT (Nat.lt_add_right 21 hlt) (oT (Nat.lt_add_right 20 hlt) (oT (Nat.lt_add_right 19 hlt) (oT (Nat.lt_add_right 18 hlt) (oT (Nat.lt_add_right 17 hlt) (oT (Nat.lt_add_right 16 hlt) (oT (Nat.lt_add_right 15 hlt) (oT (Nat.lt_add_right 14 hlt) (oT (Nat.lt_add_right 13 hlt) (oT (Nat.lt_add_right 12 hlt) (oT (Nat.lt_add_right 11 hlt) (oT (Nat.lt_add_right 10 hlt) (oT (Nat.lt_add_right 9 hlt) (oT (Nat.lt_add_right 8 hlt) (oT (Nat.lt_add_right 7 hlt) (oT (Nat.lt_add_right 6 hlt) (oT (Nat.lt_add_right 5 hlt) (oT (Nat.lt_add_right 4 hlt) (oT (Nat.lt_add_right 3 hlt) (oT (Nat.lt_add_right 2 hlt) (oT (Nat.lt_add_right 1 hlt) (oT (Nat.lt_add_right 0 hlt) hp))))))))))))))))))))))))))))))))))))))))) ?_
  refine g_aload_n 328 dMod_init_328 rfl ?_
  refine g_bipush 329 16 dMod_init_329 rfl ?_
  refine g_newa 331 0 16 dMod_init_331 aw_int rfl rfl (fun _ => rfl) (fun _ _ h => h) (by decide) (by decide) (by decide) (by decide) (Nat.le_of_ble_eq_true rfl) (Nat.le_of_ble_eq_true rfl) ?_
  refine g_putr 333 10 42 dMod_init_333 ps_Mod_135 rfl rfl (oT (Nat.lt_add_right 41 hlt) (oT (Nat.lt_add_right 40 hlt) (oT (Nat.lt_add_right 39 hlt) (oT (Nat.lt_add_right 38 hlt) (oT (Nat.lt_add_right 37 hlt) (oT (Nat.lt_add_right 36 hlt) (oT (Nat.lt_add_right 35 hlt) (oT (Nat.lt_add_right 34 hlt) (oT (Nat.lt_add_right 33 hlt) (oT (Nat.lt_add_right 32 hlt) (oT (Nat.lt_add_right 31 hlt) (oT (Nat.lt_add_right 30 hlt) (oT (Nat.lt_add_right 29 hlt) (oT (Nat.lt_add_right 28 hlt) (oT (Nat.lt_add_right 27 hlt) (oT (Nat.lt_add_right 26 hlt) (oT (Nat.lt_add_right 25 hlt) (oT (Nat.lt_add_right 24 hlt) (oT (Nat.lt_add_right 23 hlt) (oT (Nat.lt_add_right 22 hlt) (oT (Nat.lt_add_right 21 hlt) (oT (Nat.lt_add_right 20 hlt) (oT (Nat.lt_add_right 19 hlt) (oT (Nat.lt_add_right 18 hlt) (oT (Nat.lt_add_right 17 hlt) (oT (Nat.lt_add_right 16 hlt) (oT (Nat.lt_add_right 15 hlt) (oT (Nat.lt_add_right 14 hlt) (oT (Nat.lt_add_right 13 hlt) (oT (Nat.lt_add_right 12 hlt) (oT (Nat.lt_add_right 11 hlt) (oT (Nat.lt_add_right 10 hlt) (oT (Nat.lt_add_right 9 hlt) (oT (Nat.lt_add_right 8 hlt) (oT (Nat.lt_add_right 7 hlt) (oT (Nat.lt_add_right 6 hlt) (oT (Nat.lt_add_right 5 hlt) (oT (Nat.lt_add_right 4 hlt) (oT (Nat.lt_add_right 3 hlt) (oT (Nat.lt_add_right 2 hlt) (oT (Nat.lt_add_right 1 hlt) (oT (Nat.lt_add_right 0 hlt) hp)))))))))))))))))))))))))))))))))))))))))) ?_
  refine g_aload_n 336 dMod_init_336 rfl ?_
  refine g_bipush 337 16 dMod_init_337 rfl ?_
  refine g_newa 339 0 16 dMod_init_339 aw_int rfl rfl (fun _ => rfl) (fun _ _ h => h) (by decide) (by decide) (by decide) (by decide) (Nat.le_of_ble_eq_true rfl) (Nat.le_of_ble_eq_true rfl) ?_
  refine g_putr 341 10 43 dMod_init_341 ps_Mod_138 rfl rfl (oT (Nat.lt_add_right 42 hlt) (oT (Nat.lt_add_right 41 hlt) (oT (Nat.lt_add_right 40 hlt) (oT (Nat.lt_add_right 39 hlt) (oT (Nat.lt_add_right 38 hlt) (oT (Nat.lt_add_right 37 hlt) (oT (Nat.lt_add_right 36 hlt) (oT (Nat.lt_add_right 35 hlt) (oT (Nat.lt_add_right 34 hlt) (oT (Nat.lt_add_right 33 hlt) (oT (Nat.lt_add_right 32 hlt) (oT (Nat.lt_add_right 31 hlt) (oT (Nat.lt_add_right 30 hlt) (oT (Nat.lt_add_right 29 hlt) (oT (Nat.lt_add_right 28 hlt) (oT (Nat.lt_add_right 27 hlt) (oT (Nat.lt_add_right 26 hlt) (oT (Nat.lt_add_right 25 hlt) (oT (Nat.lt_add_right 24 hlt) (oT (Nat.lt_add_right 23 hlt) (oT (Nat.lt_add_right 22 hlt) (oT (Nat.lt_add_right 21 hlt) (oT (Nat.lt_add_right 20 hlt) (oT (Nat.lt_add_right 19 hlt) (oT (Nat.lt_add_right 18 hlt) (oT (Nat.lt_add_right 17 hlt) (oT (Nat.lt_add_right 16 hlt) (oT (Nat.lt_add_right 15 hlt) (oT (Nat.lt_add_right 14 hlt) (oT (Nat.lt_add_right 13 hlt) (oT (Nat.lt_add_right 12 hlt) (oT (Nat.lt_add_right 11 hlt) (oT (Nat.lt_add_right 10 hlt) (oT (Nat.lt_add_right 9 hlt) (oT (Nat.lt_add_right 8 hlt) (oT (Nat.lt_add_right 7 hlt) (oT (Nat.lt_add_right 6 hlt) (oT (Nat.lt_add_right 5 hlt) (oT (Nat.lt_add_right 4 hlt) (oT (Nat.lt_add_right 3 hlt) (oT (Nat.lt_add_right 2 hlt) (oT (Nat.lt_add_right 1 hlt) (oT (Nat.lt_add_right 0 hlt) hp))))))))))))))))))))))))))))))))))))))))))) ?_
  refine g_aload_n 344 dMod_init_344 rfl ?_
  refine g_iconst 345 4 dMod_init_345 rfl ?_
  refine g_newa 346 0 4 dMod_init_346 aw_int rfl rfl (fun _ => rfl) (fun _ _ h => h) (by decide) (by decide) (by decide) (by decide) (Nat.le_of_ble_eq_true rfl) (Nat.le_of_ble_eq_true rfl) ?_
  refine g_putr 348 10 44 dMod_init_348 ps_Mod_141 rfl rfl (oT (Nat.lt_add_right 43 hlt) (oT (Nat.lt_add_right 42 hlt) (oT (Nat.lt_add_right 41 hlt) (oT (Nat.lt_add_right 40 hlt) (oT (Nat.lt_add_right 39 hlt) (oT (Nat.lt_add_right 38 hlt) (oT (Nat.lt_add_right 37 hlt) (oT (Nat.lt_add_right 36 hlt) (oT (Nat.lt_add_right 35 hlt) (oT (Nat.lt_add_right 34 hlt) (oT (Nat.lt_add_right 33 hlt) (oT (Nat.lt_add_right 32 hlt) (oT (Nat.lt_add_right 31 hlt) (oT (Nat.lt_add_right 30 hlt) (oT (Nat.lt_add_right 29 hlt) (oT (Nat.lt_add_right 28 hlt) (oT (Nat.lt_add_right 27 hlt) (oT (Nat.lt_add_right 26 hlt) (oT (Nat.lt_add_right 25 hlt) (oT (Nat.lt_add_right 24 hlt) (oT (Nat.lt_add_right 23 hlt) (oT (Nat.lt_add_right 22 hlt) (oT (Nat.lt_add_right 21 hlt) (oT (Nat.lt_add_right 20 hlt) (oT (Nat.lt_add_right 19 hlt) (oT (Nat.lt_add_right 18 hlt) (oT (Nat.lt_add_right 17 hlt) (oT (Nat.lt_add_right 16 hlt) (oT (Nat.lt_add_right 15 hlt) (oT (Nat.lt_add_right 14 hlt) (oT (Nat.lt_add_right 13 hlt) (oT (Nat.lt_add_right 12 hlt) (oT (Nat.lt_add_right 11 hlt) (oT (Nat.lt_add_right 10 hlt) (oT (Nat.lt_add_right 9 hlt) (oT (Nat.lt_add_right 8 hlt) (oT (Nat.lt_add_right 7 hlt) (oT (Nat.lt_add_right 6 hlt) (oT (Nat.lt_add_right 5 hlt) (oT (Nat.lt_add_right 4 hlt) (oT (Nat.lt_add_right 3 hlt) (oT (Nat.lt_add_right 2 hlt) (oT (Nat.lt_add_right 1 hlt) (oT (Nat.lt_add_right 0 hlt) hp)))))))))))))))))))))))))))))))))))))))))))) ?_
  refine g_aload_n 351 dMod_init_351 rfl ?_
  refine g_iconst 352 4 dMod_init_352 rfl ?_
  refine g_newa 353 0 4 dMod_init_353 aw_int rfl rfl (fun _ => rfl) (fun _ _ h => h) (by decide) (by decide) (by decide) (by decide) (Nat.le_of_ble_eq_true rfl) (Nat.le_of_ble_eq_true rfl) ?_
  refine g_putr 355 10 45 dMod_init_355 ps_Mod_144 rfl rfl (oT (Nat.lt_add_right 44 hlt) (oT (Nat.lt_add_right 43 hlt) (oT (Nat.lt_add_right 42 hlt) (oT (Nat.lt_add_right 41 hlt) (oT (Nat.lt_add_right 40 hlt) (oT (Nat.lt_add_right 39 hlt) (oT (Nat.lt_add_right 38 hlt) (oT (Nat.lt_add_right 37 hlt) (oT (Nat.lt_add_right 36 hlt) (oT (Nat.lt_add_right 35 hlt) (oT (Nat.lt_add_right 34 hlt) (oT (Nat.lt_add_right 33 hlt) (oT (Nat.lt_add_right 32 hlt) (oT (Nat.lt_add_right 31 hlt) (oT (Nat.lt_add_right 30 hlt) (oT (Nat.lt_add_right 29 hlt) (oT (Nat.lt_add_right 28 hlt) (oT (Nat.lt_add_right 27 hlt) (oT (Nat.lt_add_right 26 hlt) (oT (Nat.lt_add_right 25 hlt) (oT (Nat.lt_add_right 24 hlt) (oT (Nat.lt_add_right 23 hlt) (oT (Nat.lt_add_right 22 hlt) (oT (Nat.lt_add_right 21 hlt) (oT (Nat.lt_add_right 20 hlt) (oT (Nat.lt_add_right 19 hlt) (oT (Nat.lt_add_right 18 hlt) (oT (Nat.lt_add_right 17 hlt) (oT (Nat.lt_add_right 16 hlt) (oT (Nat.lt_add_right 15 hlt) (oT (Nat.lt_add_right 14 hlt) (oT (Nat.lt_add_right 13 hlt) (oT (Nat.lt_add_right 12 hlt) (oT (Nat.lt_add_right 11 hlt) (oT (Nat.lt_add_right 10 hlt) (oT (Nat.lt_add_right 9 hlt) (oT (Nat.lt_add_right 8 hlt) (oT (Nat.lt_add_right 7 hlt) (oT (Nat.lt_add_right 6 hlt) (oT (Nat.lt_add_right 5 hlt) (oT (Nat.lt_add_right 4 hlt) (oT (Nat.lt_add_right 3 hlt) (oT (Nat.lt_add_right 2 hlt) (oT (Nat.lt_add_right 1 hlt) (oT (Nat.lt_add_right 0 hlt) hp))))))))))))))))))))))))))))))))))))))))))))) ?_
  refine g_aload_n 358 dMod_init_358 rfl ?_
  refine g_bipush 359 24 dMod_init_359 rfl ?_
  refine g_newa 361 0 24 dMod_init_361 aw_int rfl rfl (fun _ => rfl) (fun _ _ h => h) (by decide) (by decide) (by decide) (by decide) (Nat.le_of_ble_eq_true rfl) (Nat.le_of_ble_eq_true rfl) ?_
  refine g_putr 363 10 46 dMod_init_363 ps_Mod_147 rfl rfl (oT (Nat.lt_add_right 45 hlt) (oT (Nat.lt_add_right 44 hlt) (oT (Nat.lt_add_right 43 hlt) (oT (Nat.lt_add_right 42 hlt) (oT (Nat.lt_add_right 41 hlt) (oT (Nat.lt_add_right 40 hlt) (oT (Nat.lt_add_right 39 hlt) (oT (Nat.lt_add_right 38 hlt) (oT (Nat.lt_add_right 37 hlt) (oT (Nat.lt_add_right 36 hlt) (oT (Nat.lt_add_right 35 hlt) (oT (Nat.lt_add_right 34 hlt) (oT (Nat.lt_add_right 33 hlt) (oT (Nat.lt_add_right 32 hlt) (oT (Nat.lt_add_right 31 hlt) (oT (Nat.lt_add_right 30 hlt) (oT (Nat.lt_add_right 29 hlt) (oT (Nat.lt_add_right 28 hlt) (oT (Nat.lt_add_right 27 hlt) (oT (Nat.lt_add_right 26 hlt) (oT (Nat.lt_add_right 25 hlt) (oT (Nat.lt_add_right 24 hlt) (oT (Nat.lt_add_right 23 hlt) (oT (Nat.lt_add_right 22 hlt) (oT (Nat.lt_add_right 21 hlt) (oT (Nat.lt_add_right 20 hlt) (oT (Nat.lt_add_right 19 hlt) (oT (Nat.lt_add_right 18 hlt) (oT (Nat.lt_add_right 17 hlt) (oT (Nat.lt_add_right 16 hlt) (oT (Nat.lt_add_right 15 hlt) (oT (Nat.lt_add_right 14 hlt) (oT (Nat.lt_add_right 13 hlt) (oT (Nat.lt_add_right 12 hlt) (oT (Nat.lt_add_right 11 hlt) (oT (Nat.lt_add_right 10 hlt) (oT (Nat.lt_add_right 9 hlt) (oT (Nat.lt_add_right 8 hlt) (oT (Nat.lt_add_right 7 hlt) (oT (Nat.lt_add_right 6 hlt) (oT (Nat.lt_add_right 5 hlt) (oT (Nat.lt_add_right 4 hlt) (oT (Nat.lt_add_right 3 hlt) (oT (Nat.lt_add_right 2 hlt) (oT (Nat.lt_add_right 1 hlt) (oT (Nat.lt_add_right 0 hlt) hp)))))))))))))))))))))))))))))))))))))))))))))) ?_
  refine g_aload_n 366 dMod_init_366 rfl ?_
  refine g_bipush 367 24 dMod_init_367 rfl ?_
  refine g_newa 369 0 24 dMod_init_369 aw_int rfl rfl (fun _ => rfl) (fun _ _ h => h) (by decide) (by decide) (by decide) (by decide) (Nat.le_of_ble_eq_true rfl) (Nat.le_of_ble_eq_true rfl) ?_
  refine g_putr 371 10 47 dMod_init_371 ps_Mod_150 rfl rfl (oT (Nat.lt_add_right 46 hlt) (oT (Nat.lt_add_right 45 hlt) (oT (Nat.lt_add_right 44 hlt) (oT (Nat.lt_add_right 43 hlt) (oT (Nat.lt_add_right 42 hlt) (oT (Nat.lt_add_right 41 hlt) (oT (Nat.lt_add_right 40 hlt) (oT (Nat.lt_add_right 39 hlt) (oT (Nat.lt_add_right 38 hlt) (oT (Nat.lt_add_right 37 hlt) (oT (Nat.lt_add_right 36 hlt) (oT (Nat.lt_add_right 35 hlt) (oT (Nat.lt_add_right 34 hlt) (oT (Nat.lt_add_right 33 hlt) (oT (Nat.lt_add_right 32 hlt) (oT (Nat.lt_add_right 31 hlt) (oT (Nat.lt_add_right 30 hlt) (oT (Nat.lt_add_right 29 hlt) (oT (Nat.lt_add_right 28 hlt) (oT (Nat.lt_add_right 27 hlt) (oT (Nat.lt_add_right 26 hlt) (oT (Nat.lt_add_right 25 hlt) (oT (Nat.lt_add_right 24 hlt) (oT (Nat.lt_add_right 23 hlt) (oT (Nat.lt_add_right 22 hlt) (oT (Nat.lt_add_right 21 hlt) (oT (Nat.lt_add_right 20 hlt) (oT (Nat.lt_add_right 19 hlt) (oT (Nat.lt_add_right 18 hlt) (oT (Nat.lt_add_right 17 hlt) (oT (Nat.lt_add_right 16 hlt) (oT (Nat.lt_add_right 15 hlt) (oT (Nat.lt_add_right 14 hlt) (oT (Nat.lt_add_right 13 hlt) (oT (Nat.lt_add_right 12 hlt) (oT (Nat.lt_add_right 11 hlt) (oT (Nat.lt_add_right 10 hlt) (oT (Nat.lt_add_right 9 hlt) (oT (Nat.lt_add_right 8 hlt) (oT (Nat.lt_add_right 7 hlt) (oT (Nat.lt_add_right 6 hlt) (oT (Nat.lt_add_right 5 hlt) (oT (Nat.lt_add_right 4 hlt) (oT (Nat.lt_add_right 3 hlt) (oT (Nat.lt_add_right 2 hlt) (oT (Nat.lt_add_right 1 hlt) (oT (Nat.lt_add_right 0 hlt) hp))))))))))))))))))))))))))))))))))))))))))))))) ?_
  refine g_aload_n 374 dMod_init_374 rfl ?_
  refine g_iconst 375 2 dMod_init_375 rfl ?_
  refine g_newa 376 0 2 dMod_init_376 aw_int rfl rfl (fun _ => rfl) (fun _ _ h => h) (by decide) (by decide) (by decide) (by decide) (Nat.le_of_ble_eq_true rfl) (Nat.le_of_ble_eq_true rfl) ?_
  refine g_putr 378 10 48 dMod_init_378 ps_Mod_153 rfl rfl (oT (Nat.lt_add_right 47 hlt) (oT (Nat.lt_add_right 46 hlt) (oT (Nat.lt_add_right 45 hlt) (oT (Nat.lt_add_right 44 hlt) (oT (Nat.lt_add_right 43 hlt) (oT (Nat.lt_add_right 42 hlt) (oT (Nat.lt_add_right 41 hlt) (oT (Nat.lt_add_right 40 hlt) (oT (Nat.lt_add_right 39 hlt) (oT (Nat.lt_add_right 38 hlt) (oT (Nat.lt_add_right 37 hlt) (oT (Nat.lt_add_right 36 hlt) (oT (Nat.lt_add_right 35 hlt) (oT (Nat.lt_add_right 34 hlt) (oT (Nat.lt_add_right 33 hlt) (oT (Nat.lt_add_right 32 hlt) (oT (Nat.lt_add_right 31 hlt) (oT (Nat.lt_add_right 30 hlt) (oT (Nat.lt_add_right 29 hlt) (oT (Nat.lt_add_right 28 hlt) (oT (Nat.lt_add_right 27 hlt) (oT (Nat.lt_add_right 26 hlt) (oT (Nat.lt_add_right 25 hlt) (oT (Nat.lt_add_right 24 hlt) (oT (Nat.lt_add_right 23 hlt) (oT (Nat.lt_add_right 22 hlt) (oT (Nat.lt_add_right 21 hlt) (oT (Nat.lt_add_right 20 hlt) (oT (Nat.lt_add_right 19 hlt) (oT (Nat.lt_add_right 18 hlt) (oT (Nat.lt_add_right 17 hlt) (oT (Nat.lt_add_right 16 hlt) (oT (Nat.lt_add_right 15 hlt) (oT (Nat.lt_add_right 14 hlt) (oT (Nat.lt_add_right 13 hlt) (oT (Nat.lt_add_right 12 hlt) (oT (Nat.lt_add_right 11 hlt) (oT (Nat.lt_add_right 10 hlt) (oT (Nat.lt_add_right 9 hlt) (oT (Nat.lt_add_right 8 hlt) (oT (Nat.lt_add_right 7 hlt) (oT (Nat.lt_add_right 6 hlt) (oT (Nat.lt_add_right 5 hlt) (oT (Nat.lt_add_right 4 hlt) (oT (Nat.lt_add_right 3 hlt) (oT (Nat.lt_add_right 2 hlt) (oT (Nat.lt_add_right 1 hlt) (oT (Nat.lt_add_right 0 hlt) hp)))))))))))))))))))))))))))))))))))))))))))))))) ?_
  refine g_aload_n 381 dMod_init_381 rfl ?_
  refine g_bipush 382 12 dMod_init_382 rfl ?_
  refine g_newa 384 0 12 dMod_init_384 aw_int rfl rfl (fun _ => rfl) (fun _ _ h => h) (by decide) (by decide) (by decide) (by decide) (Nat.le_of_ble_eq_true rfl) (Nat.le_of_ble_eq_true rfl) ?_
  refine g_putr 386 10 49 dMod_init_386 ps_Mod_156 rfl rfl (oT (Nat.lt_add_right 48 hlt) (oT (Nat.lt_add_right 47 hlt) (oT (Nat.lt_add_right 46 hlt) (oT (Nat.lt_add_right 45 hlt) (oT (Nat.lt_add_right 44 hlt) (oT (Nat.lt_add_right 43 hlt) (oT (Nat.lt_add_right 42 hlt) (oT (Nat.lt_add_right 41 hlt) (oT (Nat.lt_add_right 40 hlt) (oT (Nat.lt_add_right 39 hlt) (oT (Nat.lt_add_right 38 hlt) (oT (Nat.lt_add_right 37 hlt) (oT (Nat.lt_add_right 36 hlt) (oT (Nat.lt_add_right 35 hlt) (oT (Nat.lt_add_right 34 hlt) (oT (Nat.lt_add_right 33 hlt) (oT (Nat.lt_add_right 32 hlt) (oT (Nat.lt_add_right 31 hlt) (oT (Nat.lt_add_right 30 hlt) (oT (Nat.lt_add_right 29 hlt) (oT (Nat.lt_add_right 28 hlt) (oT (Nat.lt_add_right 27 hlt) (oT (Nat.lt_add_right 26 hlt) (oT (Nat.lt_add_right 25 hlt) (oT (Nat.lt_add_right 24 hlt) (oT (Nat.lt_add_right 23 hlt) (oT (Nat.lt_add_right 22 hlt) (oT (Nat.lt_add_right 21 hlt) (oT (Nat.lt_add_right 20 hlt) (oT (Nat.lt_add_right 19 hlt) (oT (Nat.lt_add_right 18 hlt) (oT (Nat.lt_add_right 17 hlt) (oT (Nat.lt_add_right 16 hlt) (oT (Nat.lt_add_right 15 hlt) (oT (Nat.lt_add_right 14 hlt) (oT (Nat.lt_add_right 13 hlt) (oT (Nat.lt_add_right 12 hlt) (oT (Nat.lt_add_right 11 hlt) (oT (Nat.lt_add_right 10 hlt) (oT (Nat.lt_add_right 9 hlt) (oT (Nat.lt_add_right 8 hlt) (oT (Nat.lt_add_right 7 hlt) (oT (Nat.lt_add_right 6 hlt) (oT (Nat.lt_add_right 5 hlt) (oT (Nat.lt_add_right 4 hlt) (oT (Nat.lt_add_right 3 hlt) (oT (Nat.lt_add_right 2 hlt) (oT (Nat.lt_add_right 1 hlt) (oT (Nat.lt_add_right 0 hlt) hp))))))))))))))))))))))))))))))))))))))))))))))))) ?_
  refine g_aload_n 389 dMod_init_389 rfl ?_
  refine g_bipush 390 12 dMod_init_390 rfl ?_
  refine g_newa 392 0 12 dMod_init_392 aw_int rfl rfl (fun _ => rfl) (fun _ _ h => h) (by decide) (by decide) (by decide) (by decide) (Nat.le_of_ble_eq_true rfl) (Nat.le_of_ble_eq_true rfl) ?_
  refine g_putr 394 10 50 dMod_init_394 ps_Mod_159 rfl rfl (oT (Nat.lt_add_right 49 hlt) (oT (Nat.lt_add_right 48 hlt) (oT (Nat.lt_add_right 47 hlt) (oT (Nat.lt_add_right 46 hlt) (oT (Nat.lt_add_right 45 hlt) (oT (Nat.lt_add_right 44 hlt) (oT (Nat.lt_add_right 43 hlt) (oT (Nat.lt_add_right 42 hlt) (oT (Nat.lt_add_right 41 hlt) (oT (Nat.lt_add_right 40 hlt) (oT (Nat.lt_add_right 39 hlt) (oT (Nat.lt_add_right 38 hlt) (oT (Nat.lt_add_right 37 hlt) (oT (Nat.lt_add_right 36 hlt) (oT (Nat.lt_add_right 35 hlt) (oT (Nat.lt_add_right 34 hlt) (oT (Nat.lt_add_right 33 hlt) (oT (Nat.lt_add_right 32 hlt) (oT (Nat.lt_add_right 31 hlt) (oT (Nat.lt_add_right 30 hlt) (oT (Nat.lt_add_right 29 hlt) (oT (Nat.lt_add_right 28 hlt) (oT (Nat.lt_add_right 27 hlt) (oT (Nat.lt_add_right 26 hlt) (oT (Nat.lt_add_right 25 hlt) (oT (Nat.lt_add_right 24 hlt) (oT (Nat.lt_add_right 23 hlt) (oT (Nat.lt_add_right 22 hlt) (oT (Nat.lt_add_right 21 hlt) (oT (Nat.lt_add_right 20 hlt) (oT (Nat.lt_add_right 19 hlt) (oT (Nat.lt_add_right 18 hlt) (oT (Nat.lt_add_right 17 hlt) (oT (Nat.lt_add_right 16 hlt) (oT (Nat.lt_add_right 15 hlt) (oT (Nat.lt_add_right 14 hlt) (oT (Nat.lt_add_right 13 hlt) (oT (Nat.lt_add_right 12 hlt) (oT (Nat.lt_add_right 11 hlt) (oT (Nat.lt_add_right 10 hlt) (oT (Nat.lt_add_right 9 hlt) (oT (Nat.lt_add_right 8 hlt) (oT (Nat.lt_add_right 7 hlt) (oT (Nat.lt_add_right 6 hlt) (oT (Nat.lt_add_right 5 hlt) (oT (Nat.lt_add_right 4 hlt) (oT (Nat.lt_add_right 3 hlt) (oT (Nat.lt_add_right 2 hlt) (oT (Nat.lt_add_right 1 hlt) (oT (Nat.lt_add_right 0 hlt) hp)))))))))))))))))))))))))))))))))))))))))))))))))) ?_
  refine g_aload_n 397 dMod_init_397 rfl ?_
  refine g_bipush 398 12 dMod_init_398 rfl ?_
  refine g_newa 400 2 12 dMod_init_400 aw_boolean rfl rfl (fun _ => rfl) (fun _ _ h => h) (by decide) (by decide) (by decide) (by decide) (Nat.le_of_ble_eq_true rfl) (Nat.le_of_ble_eq_true rfl) ?_
  refine g_putr 402 10 51 dMod_init_402 ps_Mod_162 rfl rfl (oT (Nat.lt_add_right 50 hlt) (oT (Nat.lt_add_right 49 hlt) (oT (Nat.lt_add_right 48 hlt) (oT (Nat.lt_add_right 47 hlt) (oT (Nat.lt_add_right 46 hlt) (oT (Nat.lt_add_right 45 hlt) (oT (Nat.lt_add_right 44 hlt) (oT (Nat.lt_add_right 43 hlt) (oT (Nat.lt_add_right 42 hlt) (oT (Nat.lt_add_right 41 hlt) (oT (Nat.lt_add_right 40 hlt) (oT (Nat.lt_add_right 39 hlt) (oT (Nat.lt_add_right 38 hlt) (oT (Nat.lt_add_right 37 hlt) (oT (Nat.lt_add_right 36 hlt) (oT (Nat.lt_add_right 35 hlt) (oT (Nat.lt_add_right 34 hlt) (oT (Nat.lt_add_right 33 hlt) (oT (Nat.lt_add_right 32 hlt) (oT (Nat.lt_add_right 31 hlt) (oT (Nat.lt_add_right 30 hlt) (oT (Nat.lt_add_right 29 hlt) (oT (Nat.lt_add_right 28 hlt) (oT (Nat.lt_add_right 27 hlt) (oT (Nat.lt_add_right 26 hlt) (oT (Nat.lt_add_right 25 hlt) (oT (Nat.lt_add_right 24 hlt) (oT (Nat.lt_add_right 23 hlt) (oT (Nat.lt_add_right 22 hlt) (oT (Nat.lt_add_right 21 hlt) (oT (Nat.lt_add_right 20 hlt) (oT (Nat.lt_add_right 19 hlt) (oT (Nat.lt_add_right 18 hlt) (oT (Nat.lt_add_right 17 hlt) (oT (Nat.lt_add_right 16 hlt) (oT (Nat.lt_add_right 15 hlt) (oT (Nat.lt_add_right 14 hlt) (oT (Nat.lt_add_right 13 hlt) (oT (Nat.lt_add_right 12 hlt) (oT (Nat.lt_add_right 11 hlt) (oT (Nat.lt_add_right 10 hlt) (oT (Nat.lt_add_right 9 hlt) (oT (Nat.lt_add_right 8 hlt) (oT (Nat.lt_add_right 7 hlt) (oT (Nat.lt_add_right 6 hlt) (oT (Nat.lt_add_right 5 hlt) (oT (Nat.lt_add_right 4 hlt) (oT (Nat.lt_add_right 3 hlt) (oT (Nat.lt_add_right 2 hlt) (oT (Nat.lt_add_right 1 hlt) (oT (Nat.lt_add_right 0 hlt) hp))))))))))))))))))))))))))))))))))))))))))))))))))) ?_
  refine g_aload_n 405 dMod_init_405 rfl ?_
  refine g_bipush 406 8 dMod_init_406 rfl ?_
  refine g_newa 408 0 8 dMod_init_408 aw_int rfl rfl (fun _ => rfl) (fun _ _ h => h) (by decide) (by decide) (by decide) (by decide) (Nat.le_of_ble_eq_true rfl) (Nat.le_of_ble_eq_true rfl) ?_
  refine g_putr 410 10 53 dMod_init_410 ps_Mod_165 rfl rfl (oT (Nat.lt_add_right 51 hlt) (oT (Nat.lt_add_right 50 hlt) (oT (Nat.lt_add_right 49 hlt) (oT (Nat.lt_add_right 48 hlt) (oT (Nat.lt_add_right 47 hlt) (oT (Nat.lt_add_right 46 hlt) (oT (Nat.lt_add_right 45 hlt) (oT (Nat.lt_add_right 44 hlt) (oT (Nat.lt_add_right 43 hlt) (oT (Nat.lt_add_right 42 hlt) (oT (Nat.lt_add_right 41 hlt) (oT (Nat.lt_add_right 40 hlt) (oT (Nat.lt_add_right 39 hlt) (oT (Nat.lt_add_right 38 hlt) (oT (Nat.lt_add_right 37 hlt) (oT (Nat.lt_add_right 36 hlt) (oT (Nat.lt_add_right 35 hlt) (oT (Nat.lt_add_right 34 hlt) (oT (Nat.lt_add_right 33 hlt) (oT (Nat.lt_add_right 32 hlt) (oT (Nat.lt_add_right 31 hlt) (oT (Nat.lt_add_right 30 hlt) (oT (Nat.lt_add_right 29 hlt) (oT (Nat.lt_add_right 28 hlt) (oT (Nat.lt_add_right 27 hlt) (oT (Nat.lt_add_right 26 hlt) (oT (Nat.lt_add_right 25 hlt) (oT (Nat.lt_add_right 24 hlt) (oT (Nat.lt_add_right 23 hlt) (oT (Nat.lt_add_right 22 hlt) (oT (Nat.lt_add_right 21 hlt) (oT (Nat.lt_add_right 20 hlt) (oT (Nat.lt_add_right 19 hlt) (oT (Nat.lt_add_right 18 hlt) (oT (Nat.lt_add_right 17 hlt) (oT (Nat.lt_add_right 16 hlt) (oT (Nat.lt_add_right 15 hlt) (oT (Nat.lt_add_right 14 hlt) (oT (Nat.lt_add_right 13 hlt) (oT (Nat.lt_add_right 12 hlt) (oT (Nat.lt_add_right 11 hlt) (oT (Nat.lt_add_right 10 hlt) (oT (Nat.lt_add_right 9 hlt) (oT (Nat.lt_add_right 8 hlt) (oT (Nat.lt_add_right 7 hlt) (oT (Nat.lt_add_right 6 hlt) (oT (Nat.lt_add_right 5 hlt) (oT (Nat.lt_add_right 4 hlt) (oT (Nat.lt_add_right 3 hlt) (oT (Nat.lt_add_right 2 hlt) (oT (Nat.lt_add_right 1 hlt) (oT (Nat.lt_add_right 0 hlt) hp)))))))))))))))))))))))))))))))))))))))))))))))))))) ?_
  refine g_aload_n 413 dMod_init_413 rfl ?_
  refine g_bipush 414 8 dMod_init_414 rfl ?_
  refine g_newa 416 0 8 dMod_init_416 aw_int rfl rfl (fun _ => rfl) (fun _ _ h => h) (by decide) (by decide) (by decide) (by decide) (Nat.le_of_ble_eq_true rfl) (Nat.le_of_ble_eq_true rfl) ?_
  refine g_putr 418 10 54 dMod_init_418 ps_Mod_168 rfl rfl (oT (Nat.lt_add_right 52 hlt) (oT (Nat.lt_add_right 51 hlt) (oT (Nat.lt_add_right 50 hlt) (oT (Nat.lt_add_right 49 hlt) (oT (Nat.lt_add_right 48 hlt) (oT (Nat.lt_add_right 47 hlt) (oT (Nat.lt_add_right 46 hlt) (oT (Nat.lt_add_right 45 hlt) (oT (Nat.lt_add_right 44 hlt) (oT (Nat.lt_add_right 43 hlt) (oT (Nat.lt_add_right 42 hlt) (oT (Nat.lt_add_right 41 hlt) (oT (Nat.lt_add_right 40 hlt) (oT (Nat.lt_add_right 39 hlt) (oT (Nat.lt_add_right 38 hlt) (oT (Nat.lt_add_right 37 hlt) (oT (Nat.lt_add_right 36 hlt) (oT (Nat.lt_add_right 35 hlt) (oT (Nat.lt_add_right 34 hlt) (oT (Nat.lt_add_right 33 hlt) (oT (Nat.lt_add_right 32 hlt) (oT (Nat.lt_add_right 31 hlt) (oT (Nat.lt_add_right 30 hlt) (oT (Nat.lt_add_right 29 hlt) (oT (Nat.lt_add_right 28 hlt) (oT (Nat.lt_add_right 27 hlt) (oT (Nat.lt_add_right 26 hlt) (oT (Nat.lt_add_right 25 hlt) (oT (Nat.lt_add_right 24 hlt) (oT (Nat.lt_add_right 23 hlt) (oT (Nat.lt_add_right 22 hlt) (oT (Nat.lt_add_right 21 hlt) (oT (Nat.lt_add_right 20 hlt) (oT (Nat.lt_add_right 19 hlt) (oT (Nat.lt_add_right 18 hlt) (oT (Nat.lt_add_right 17 hlt) (oT (Nat.lt_add_right 16 hlt) (oT (Nat.lt_add_right 15 hlt) (oT (Nat.lt_add_right 14 hlt) (oT (Nat.lt_add_right 13 hlt) (oT (Nat.lt_add_right 12 hlt) (oT (Nat.lt_add_right 11 hlt) (oT (Nat.lt_add_right 10 hlt) (oT (Nat.lt_add_right 9 hlt) (oT (Nat.lt_add_right 8 hlt) (oT (Nat.lt_add_right 7 hlt) (oT (Nat.lt_add_right 6 hlt) (oT (Nat.lt_add_right 5 hlt) (oT (Nat.lt_add_right 4 hlt) (oT (Nat.lt_add_right 3 hlt) (oT (Nat.lt_add_right 2 hlt) (oT (Nat.lt_add_right 1 hlt) (oT (Nat.lt_add_right 0 hlt) hp))))))))))))))))))))))))))))))))))))))))))))))))))))) ?_
  refine g_iconst 421 0 dMod_init_421 rfl ?_
  refine g_istore_n 422 dMod_init_422 (by decide) rfl ?_
  exact g_Mod_0 (N := mkMod6 M t) (mod_T hlt hp) (mod_R_force hlt) (mod_R_told hlt) (mod_R_lastData hlt) (mod_R_maximum hlt) mod_T_force mod_T_told mod_T_lastData mod_T_maximum ⟨rfl, rfl⟩
end
section

/-! ===== where everything lies: the memory as the law begins, and what stays of it ===== -/
def m00 : mM := (3, fun _ => (999, 0), fun _ _ => 0, fun _ _ => 0, fun _ _ => none)
/-- the class at 3, the reference at 169; behind 222 what later calls make -/
def mi : mM := mkMod (newM (mkLink (newM m00 0 1) 3) 10 56) 169
/-- places of references that calls change: the rows of the two pipes, a stream's list -/
def mvR (a k : Nat) : Prop := a = 5 ∨ a = 7 ∨ (k = 7 ∧ ((29 ≤ a ∧ a < 89 ∧ (a - 29) % 5 = 0) ∨ (109 ≤ a ∧ a < 169 ∧ (a - 109) % 5 = 0)))
def Shp (M : mM) : Prop := 223 ≤ mN M ∧ (∀ a, a < 223 → mT M a = mT mi a) ∧ ∀ a k, a < 223 → ¬ mvR a k → mR M a k = mR mi a k
theorem Shp.setR {M : mM} {a k : Nat} {v : Option Nat} (h : Shp M) (hm : mvR a k ∨ 223 ≤ a) : Shp (setR M a k v) := ⟨h.1, h.2.1, fun b j hb hj => by
  show up2 (mR M) a k v b j = _
  rw [up2_ne (fun q => by obtain ⟨rfl, rfl⟩ := q; rcases hm with q | q; exact hj q; omega)]
  exact h.2.2 b j hb hj⟩
theorem Shp.new {M : mM} {t n : Nat} (h : Shp M) : Shp (newM M t n) := ⟨Nat.le_succ_of_le h.1, fun a ha => by rw [mT_new_ne (by have := h.1; omega)]; exact h.2.1 a ha, fun a k ha hk => by rw [mR_new_ne (by have := h.1; omega)]; exact h.2.2 a k ha hk⟩

set_option maxRecDepth 100000 in
set_option maxHeartbeats 4000000 in
theorem mi_N : mN mi = 223 := by decide +kernel
set_option maxRecDepth 100000 in
set_option maxHeartbeats 4000000 in
theorem mi_mod : (mT mi 169).1 = 10 := by decide +kernel
theorem Shp.mod {M : mM} (h : Shp M) : (mT M 169).1 = 10 := by rw [h.2.1 169 (by decide)]; exact mi_mod
set_option maxRecDepth 100000 in
set_option maxHeartbeats 4000000 in
theorem mi_T0 : mT mi 170 = (100, 2) ∧ mR mi 169 0 = some 170 := by decide +kernel
theorem Shp.T_downs {M : mM} (h : Shp M) : mT M 170 = (100, 2) := by rw [h.2.1 170 (by decide)]; exact mi_T0.1
theorem Shp.R_downs {M : mM} (h : Shp M) : mR M 169 0 = some 170 := by rw [h.2.2 169 0 (by decide) (by unfold mvR; omega)]; exact mi_T0.2
set_option maxRecDepth 100000 in
set_option maxHeartbeats 4000000 in
theorem mi_T1 : mT mi 171 = (100, 2) ∧ mR mi 169 1 = some 171 := by decide +kernel
theorem Shp.T_head {M : mM} (h : Shp M) : mT M 171 = (100, 2) := by rw [h.2.1 171 (by decide)]; exact mi_T1.1
theorem Shp.R_head {M : mM} (h : Shp M) : mR M 169 1 = some 171 := by rw [h.2.2 169 1 (by decide) (by unfold mvR; omega)]; exact mi_T1.2
set_option maxRecDepth 100000 in
set_option maxHeartbeats 4000000 in
theorem mi_T2 : mT mi 172 = (100, 2) ∧ mR mi 169 2 = some 172 := by decide +kernel
theorem Shp.T_count {M : mM} (h : Shp M) : mT M 172 = (100, 2) := by rw [h.2.1 172 (by decide)]; exact mi_T2.1
theorem Shp.R_count {M : mM} (h : Shp M) : mR M 169 2 = some 172 := by rw [h.2.2 169 2 (by decide) (by unfold mvR; omega)]; exact mi_T2.2
set_option maxRecDepth 100000 in
set_option maxHeartbeats 4000000 in
theorem mi_T3 : mT mi 173 = (100, 96) ∧ mR mi 169 3 = some 173 := by decide +kernel
theorem Shp.T_kinds {M : mM} (h : Shp M) : mT M 173 = (100, 96) := by rw [h.2.1 173 (by decide)]; exact mi_T3.1
theorem Shp.R_kinds {M : mM} (h : Shp M) : mR M 169 3 = some 173 := by rw [h.2.2 169 3 (by decide) (by unfold mvR; omega)]; exact mi_T3.2
set_option maxRecDepth 100000 in
set_option maxHeartbeats 4000000 in
theorem mi_T4 : mT mi 174 = (100, 96) ∧ mR mi 169 4 = some 174 := by decide +kernel
theorem Shp.T_streams {M : mM} (h : Shp M) : mT M 174 = (100, 96) := by rw [h.2.1 174 (by decide)]; exact mi_T4.1
theorem Shp.R_streams {M : mM} (h : Shp M) : mR M 169 4 = some 174 := by rw [h.2.2 169 4 (by decide) (by unfold mvR; omega)]; exact mi_T4.2
set_option maxRecDepth 100000 in
set_option maxHeartbeats 4000000 in
theorem mi_T5 : mT mi 175 = (100, 96) ∧ mR mi 169 5 = some 175 := by decide +kernel
theorem Shp.T_amounts {M : mM} (h : Shp M) : mT M 175 = (100, 96) := by rw [h.2.1 175 (by decide)]; exact mi_T5.1
theorem Shp.R_amounts {M : mM} (h : Shp M) : mR M 169 5 = some 175 := by rw [h.2.2 169 5 (by decide) (by unfold mvR; omega)]; exact mi_T5.2
set_option maxRecDepth 100000 in
set_option maxHeartbeats 4000000 in
theorem mi_T6 : mT mi 176 = (102, 96) ∧ mR mi 169 6 = some 176 := by decide +kernel
theorem Shp.T_flags {M : mM} (h : Shp M) : mT M 176 = (102, 96) := by rw [h.2.1 176 (by decide)]; exact mi_T6.1
theorem Shp.R_flags {M : mM} (h : Shp M) : mR M 169 6 = some 176 := by rw [h.2.2 169 6 (by decide) (by unfold mvR; omega)]; exact mi_T6.2
set_option maxRecDepth 100000 in
set_option maxHeartbeats 4000000 in
theorem mi_T7 : mT mi 177 = (100, 96) ∧ mR mi 169 7 = some 177 := by decide +kernel
theorem Shp.T_settings {M : mM} (h : Shp M) : mT M 177 = (100, 96) := by rw [h.2.1 177 (by decide)]; exact mi_T7.1
theorem Shp.R_settings {M : mM} (h : Shp M) : mR M 169 7 = some 177 := by rw [h.2.2 169 7 (by decide) (by unfold mvR; omega)]; exact mi_T7.2
set_option maxRecDepth 100000 in
set_option maxHeartbeats 4000000 in
theorem mi_T8 : mT mi 178 = (103, 96) ∧ mR mi 169 8 = some 178 := by decide +kernel
theorem Shp.T_loads {M : mM} (h : Shp M) : mT M 178 = (103, 96) := by rw [h.2.1 178 (by decide)]; exact mi_T8.1
theorem Shp.R_loads {M : mM} (h : Shp M) : mR M 169 8 = some 178 := by rw [h.2.2 169 8 (by decide) (by unfold mvR; omega)]; exact mi_T8.2
set_option maxRecDepth 100000 in
set_option maxHeartbeats 4000000 in
theorem mi_T9 : mT mi 179 = (100, 768) ∧ mR mi 169 9 = some 179 := by decide +kernel
theorem Shp.T_stepKind {M : mM} (h : Shp M) : mT M 179 = (100, 768) := by rw [h.2.1 179 (by decide)]; exact mi_T9.1
theorem Shp.R_stepKind {M : mM} (h : Shp M) : mR M 169 9 = some 179 := by rw [h.2.2 169 9 (by decide) (by unfold mvR; omega)]; exact mi_T9.2
set_option maxRecDepth 100000 in
set_option maxHeartbeats 4000000 in
theorem mi_T10 : mT mi 180 = (100, 768) ∧ mR mi 169 10 = some 180 := by decide +kernel
theorem Shp.T_stepIndex {M : mM} (h : Shp M) : mT M 180 = (100, 768) := by rw [h.2.1 180 (by decide)]; exact mi_T10.1
theorem Shp.R_stepIndex {M : mM} (h : Shp M) : mR M 169 10 = some 180 := by rw [h.2.2 169 10 (by decide) (by unfold mvR; omega)]; exact mi_T10.2
set_option maxRecDepth 100000 in
set_option maxHeartbeats 4000000 in
theorem mi_T11 : mT mi 181 = (100, 768) ∧ mR mi 169 11 = some 181 := by decide +kernel
theorem Shp.T_stepName {M : mM} (h : Shp M) : mT M 181 = (100, 768) := by rw [h.2.1 181 (by decide)]; exact mi_T11.1
theorem Shp.R_stepName {M : mM} (h : Shp M) : mR M 169 11 = some 181 := by rw [h.2.2 169 11 (by decide) (by unfold mvR; omega)]; exact mi_T11.2
set_option maxRecDepth 100000 in
set_option maxHeartbeats 4000000 in
theorem mi_T12 : mT mi 182 = (100, 768) ∧ mR mi 169 12 = some 182 := by decide +kernel
theorem Shp.T_stepValue {M : mM} (h : Shp M) : mT M 182 = (100, 768) := by rw [h.2.1 182 (by decide)]; exact mi_T12.1
theorem Shp.R_stepValue {M : mM} (h : Shp M) : mR M 169 12 = some 182 := by rw [h.2.2 169 12 (by decide) (by unfold mvR; omega)]; exact mi_T12.2
set_option maxRecDepth 100000 in
set_option maxHeartbeats 4000000 in
theorem mi_T13 : mT mi 183 = (102, 24) ∧ mR mi 169 13 = some 183 := by decide +kernel
theorem Shp.T_opened {M : mM} (h : Shp M) : mT M 183 = (102, 24) := by rw [h.2.1 183 (by decide)]; exact mi_T13.1
theorem Shp.R_opened {M : mM} (h : Shp M) : mR M 169 13 = some 183 := by rw [h.2.2 169 13 (by decide) (by unfold mvR; omega)]; exact mi_T13.2
set_option maxRecDepth 100000 in
set_option maxHeartbeats 4000000 in
theorem mi_T14 : mT mi 184 = (102, 24) ∧ mR mi 169 14 = some 184 := by decide +kernel
theorem Shp.T_cut {M : mM} (h : Shp M) : mT M 184 = (102, 24) := by rw [h.2.1 184 (by decide)]; exact mi_T14.1
theorem Shp.R_cut {M : mM} (h : Shp M) : mR M 169 14 = some 184 := by rw [h.2.2 169 14 (by decide) (by unfold mvR; omega)]; exact mi_T14.2
set_option maxRecDepth 100000 in
set_option maxHeartbeats 4000000 in
theorem mi_T15 : mT mi 185 = (102, 24) ∧ mR mi 169 15 = some 185 := by decide +kernel
theorem Shp.T_sentEnd {M : mM} (h : Shp M) : mT M 185 = (102, 24) := by rw [h.2.1 185 (by decide)]; exact mi_T15.1
theorem Shp.R_sentEnd {M : mM} (h : Shp M) : mR M 169 15 = some 185 := by rw [h.2.2 169 15 (by decide) (by unfold mvR; omega)]; exact mi_T15.2
set_option maxRecDepth 100000 in
set_option maxHeartbeats 4000000 in
theorem mi_T16 : mT mi 186 = (102, 24) ∧ mR mi 169 16 = some 186 := by decide +kernel
theorem Shp.T_gotEnd {M : mM} (h : Shp M) : mT M 186 = (102, 24) := by rw [h.2.1 186 (by decide)]; exact mi_T16.1
theorem Shp.R_gotEnd {M : mM} (h : Shp M) : mR M 169 16 = some 186 := by rw [h.2.2 169 16 (by decide) (by unfold mvR; omega)]; exact mi_T16.2
set_option maxRecDepth 100000 in
set_option maxHeartbeats 4000000 in
theorem mi_T17 : mT mi 187 = (102, 24) ∧ mR mi 169 17 = some 187 := by decide +kernel
theorem Shp.T_came {M : mM} (h : Shp M) : mT M 187 = (102, 24) := by rw [h.2.1 187 (by decide)]; exact mi_T17.1
theorem Shp.R_came {M : mM} (h : Shp M) : mR M 169 17 = some 187 := by rw [h.2.2 169 17 (by decide) (by unfold mvR; omega)]; exact mi_T17.2
set_option maxRecDepth 100000 in
set_option maxHeartbeats 4000000 in
theorem mi_T18 : mT mi 188 = (102, 24) ∧ mR mi 169 18 = some 188 := by decide +kernel
theorem Shp.T_responded {M : mM} (h : Shp M) : mT M 188 = (102, 24) := by rw [h.2.1 188 (by decide)]; exact mi_T18.1
theorem Shp.R_responded {M : mM} (h : Shp M) : mR M 169 18 = some 188 := by rw [h.2.2 169 18 (by decide) (by unfold mvR; omega)]; exact mi_T18.2
set_option maxRecDepth 100000 in
set_option maxHeartbeats 4000000 in
theorem mi_T19 : mT mi 189 = (102, 24) ∧ mR mi 169 19 = some 189 := by decide +kernel
theorem Shp.T_lastSaid {M : mM} (h : Shp M) : mT M 189 = (102, 24) := by rw [h.2.1 189 (by decide)]; exact mi_T19.1
theorem Shp.R_lastSaid {M : mM} (h : Shp M) : mR M 169 19 = some 189 := by rw [h.2.2 169 19 (by decide) (by unfold mvR; omega)]; exact mi_T19.2
set_option maxRecDepth 100000 in
set_option maxHeartbeats 4000000 in
theorem mi_T20 : mT mi 190 = (100, 24) ∧ mR mi 169 20 = some 190 := by decide +kernel
theorem Shp.T_sent {M : mM} (h : Shp M) : mT M 190 = (100, 24) := by rw [h.2.1 190 (by decide)]; exact mi_T20.1
theorem Shp.R_sent {M : mM} (h : Shp M) : mR M 169 20 = some 190 := by rw [h.2.2 169 20 (by decide) (by unfold mvR; omega)]; exact mi_T20.2
set_option maxRecDepth 100000 in
set_option maxHeartbeats 4000000 in
theorem mi_T21 : mT mi 191 = (100, 24) ∧ mR mi 169 21 = some 191 := by decide +kernel
theorem Shp.T_credit {M : mM} (h : Shp M) : mT M 191 = (100, 24) := by rw [h.2.1 191 (by decide)]; exact mi_T21.1
theorem Shp.R_credit {M : mM} (h : Shp M) : mR M 169 21 = some 191 := by rw [h.2.2 169 21 (by decide) (by unfold mvR; omega)]; exact mi_T21.2
set_option maxRecDepth 100000 in
set_option maxHeartbeats 4000000 in
theorem mi_T22 : mT mi 192 = (100, 24) ∧ mR mi 169 22 = some 192 := by decide +kernel
theorem Shp.T_got {M : mM} (h : Shp M) : mT M 192 = (100, 24) := by rw [h.2.1 192 (by decide)]; exact mi_T22.1
theorem Shp.R_got {M : mM} (h : Shp M) : mR M 169 22 = some 192 := by rw [h.2.2 169 22 (by decide) (by unfold mvR; omega)]; exact mi_T22.2
set_option maxRecDepth 100000 in
set_option maxHeartbeats 4000000 in
theorem mi_T23 : mT mi 193 = (100, 24) ∧ mR mi 169 23 = some 193 := by decide +kernel
theorem Shp.T_back {M : mM} (h : Shp M) : mT M 193 = (100, 24) := by rw [h.2.1 193 (by decide)]; exact mi_T23.1
theorem Shp.R_back {M : mM} (h : Shp M) : mR M 169 23 = some 193 := by rw [h.2.2 169 23 (by decide) (by unfold mvR; omega)]; exact mi_T23.2
set_option maxRecDepth 100000 in
set_option maxHeartbeats 4000000 in
theorem mi_T24 : mT mi 194 = (100, 24) ∧ mR mi 169 24 = some 194 := by decide +kernel
theorem Shp.T_fields {M : mM} (h : Shp M) : mT M 194 = (100, 24) := by rw [h.2.1 194 (by decide)]; exact mi_T24.1
theorem Shp.R_fields {M : mM} (h : Shp M) : mR M 169 24 = some 194 := by rw [h.2.2 169 24 (by decide) (by unfold mvR; omega)]; exact mi_T24.2
set_option maxRecDepth 100000 in
set_option maxHeartbeats 4000000 in
theorem mi_T25 : mT mi 195 = (100, 144) ∧ mR mi 169 25 = some 195 := by decide +kernel
theorem Shp.T_fieldName {M : mM} (h : Shp M) : mT M 195 = (100, 144) := by rw [h.2.1 195 (by decide)]; exact mi_T25.1
theorem Shp.R_fieldName {M : mM} (h : Shp M) : mR M 169 25 = some 195 := by rw [h.2.2 169 25 (by decide) (by unfold mvR; omega)]; exact mi_T25.2
set_option maxRecDepth 100000 in
set_option maxHeartbeats 4000000 in
theorem mi_T26 : mT mi 196 = (100, 144) ∧ mR mi 169 26 = some 196 := by decide +kernel
theorem Shp.T_fieldValue {M : mM} (h : Shp M) : mT M 196 = (100, 144) := by rw [h.2.1 196 (by decide)]; exact mi_T26.1
theorem Shp.R_fieldValue {M : mM} (h : Shp M) : mR M 169 26 = some 196 := by rw [h.2.2 169 26 (by decide) (by unfold mvR; omega)]; exact mi_T26.2
set_option maxRecDepth 100000 in
set_option maxHeartbeats 4000000 in
theorem mi_T27 : mT mi 197 = (100, 24) ∧ mR mi 169 27 = some 197 := by decide +kernel
theorem Shp.T_waits {M : mM} (h : Shp M) : mT M 197 = (100, 24) := by rw [h.2.1 197 (by decide)]; exact mi_T27.1
theorem Shp.R_waits {M : mM} (h : Shp M) : mR M 169 27 = some 197 := by rw [h.2.2 169 27 (by decide) (by unfold mvR; omega)]; exact mi_T27.2
set_option maxRecDepth 100000 in
set_option maxHeartbeats 4000000 in
theorem mi_T28 : mT mi 198 = (100, 768) ∧ mR mi 169 28 = some 198 := by decide +kernel
theorem Shp.T_wait {M : mM} (h : Shp M) : mT M 198 = (100, 768) := by rw [h.2.1 198 (by decide)]; exact mi_T28.1
theorem Shp.R_wait {M : mM} (h : Shp M) : mR M 169 28 = some 198 := by rw [h.2.2 169 28 (by decide) (by unfold mvR; omega)]; exact mi_T28.2
set_option maxRecDepth 100000 in
set_option maxHeartbeats 4000000 in
theorem mi_T29 : mT mi 199 = (100, 2) ∧ mR mi 169 29 = some 199 := by decide +kernel
theorem Shp.T_unread {M : mM} (h : Shp M) : mT M 199 = (100, 2) := by rw [h.2.1 199 (by decide)]; exact mi_T29.1
theorem Shp.R_unread {M : mM} (h : Shp M) : mR M 169 29 = some 199 := by rw [h.2.2 169 29 (by decide) (by unfold mvR; omega)]; exact mi_T29.2
set_option maxRecDepth 100000 in
set_option maxHeartbeats 4000000 in
theorem mi_T30 : mT mi 200 = (100, 80) ∧ mR mi 169 30 = some 200 := by decide +kernel
theorem Shp.T_unreadStream {M : mM} (h : Shp M) : mT M 200 = (100, 80) := by rw [h.2.1 200 (by decide)]; exact mi_T30.1
theorem Shp.R_unreadStream {M : mM} (h : Shp M) : mR M 169 30 = some 200 := by rw [h.2.2 169 30 (by decide) (by unfold mvR; omega)]; exact mi_T30.2
set_option maxRecDepth 100000 in
set_option maxHeartbeats 4000000 in
theorem mi_T31 : mT mi 201 = (100, 80) ∧ mR mi 169 31 = some 201 := by decide +kernel
theorem Shp.T_unreadByte {M : mM} (h : Shp M) : mT M 201 = (100, 80) := by rw [h.2.1 201 (by decide)]; exact mi_T31.1
theorem Shp.R_unreadByte {M : mM} (h : Shp M) : mR M 169 31 = some 201 := by rw [h.2.2 169 31 (by decide) (by unfold mvR; omega)]; exact mi_T31.2
set_option maxRecDepth 100000 in
set_option maxHeartbeats 4000000 in
theorem mi_T32 : mT mi 202 = (100, 2) ∧ mR mi 169 32 = some 202 := by decide +kernel
theorem Shp.T_linkSent {M : mM} (h : Shp M) : mT M 202 = (100, 2) := by rw [h.2.1 202 (by decide)]; exact mi_T32.1
theorem Shp.R_linkSent {M : mM} (h : Shp M) : mR M 169 32 = some 202 := by rw [h.2.2 169 32 (by decide) (by unfold mvR; omega)]; exact mi_T32.2
set_option maxRecDepth 100000 in
set_option maxHeartbeats 4000000 in
theorem mi_T33 : mT mi 203 = (100, 2) ∧ mR mi 169 33 = some 203 := by decide +kernel
theorem Shp.T_linkCredit {M : mM} (h : Shp M) : mT M 203 = (100, 2) := by rw [h.2.1 203 (by decide)]; exact mi_T33.1
theorem Shp.R_linkCredit {M : mM} (h : Shp M) : mR M 169 33 = some 203 := by rw [h.2.2 169 33 (by decide) (by unfold mvR; omega)]; exact mi_T33.2
set_option maxRecDepth 100000 in
set_option maxHeartbeats 4000000 in
theorem mi_T34 : mT mi 204 = (100, 2) ∧ mR mi 169 34 = some 204 := by decide +kernel
theorem Shp.T_lastData {M : mM} (h : Shp M) : mT M 204 = (100, 2) := by rw [h.2.1 204 (by decide)]; exact mi_T34.1
theorem Shp.R_lastData {M : mM} (h : Shp M) : mR M 169 34 = some 204 := by rw [h.2.2 169 34 (by decide) (by unfold mvR; omega)]; exact mi_T34.2
set_option maxRecDepth 100000 in
set_option maxHeartbeats 4000000 in
theorem mi_T35 : mT mi 205 = (100, 6) ∧ mR mi 169 36 = some 205 := by decide +kernel
theorem Shp.T_force {M : mM} (h : Shp M) : mT M 205 = (100, 6) := by rw [h.2.1 205 (by decide)]; exact mi_T35.1
theorem Shp.R_force {M : mM} (h : Shp M) : mR M 169 36 = some 205 := by rw [h.2.2 169 36 (by decide) (by unfold mvR; omega)]; exact mi_T35.2
set_option maxRecDepth 100000 in
set_option maxHeartbeats 4000000 in
theorem mi_T36 : mT mi 206 = (100, 6) ∧ mR mi 169 37 = some 206 := by decide +kernel
theorem Shp.T_told {M : mM} (h : Shp M) : mT M 206 = (100, 6) := by rw [h.2.1 206 (by decide)]; exact mi_T36.1
theorem Shp.R_told {M : mM} (h : Shp M) : mR M 169 37 = some 206 := by rw [h.2.2 169 37 (by decide) (by unfold mvR; omega)]; exact mi_T36.2
set_option maxRecDepth 100000 in
set_option maxHeartbeats 4000000 in
theorem mi_T37 : mT mi 207 = (102, 2) ∧ mR mi 169 38 = some 207 := by decide +kernel
theorem Shp.T_toldSince {M : mM} (h : Shp M) : mT M 207 = (102, 2) := by rw [h.2.1 207 (by decide)]; exact mi_T37.1
theorem Shp.R_toldSince {M : mM} (h : Shp M) : mR M 169 38 = some 207 := by rw [h.2.2 169 38 (by decide) (by unfold mvR; omega)]; exact mi_T37.2
set_option maxRecDepth 100000 in
set_option maxHeartbeats 4000000 in
theorem mi_T38 : mT mi 208 = (100, 2) ∧ mR mi 169 39 = some 208 := by decide +kernel
theorem Shp.T_leastTold {M : mM} (h : Shp M) : mT M 208 = (100, 2) := by rw [h.2.1 208 (by decide)]; exact mi_T38.1
theorem Shp.R_leastTold {M : mM} (h : Shp M) : mR M 169 39 = some 208 := by rw [h.2.2 169 39 (by decide) (by unfold mvR; omega)]; exact mi_T38.2
set_option maxRecDepth 100000 in
set_option maxHeartbeats 4000000 in
theorem mi_T39 : mT mi 209 = (102, 2) ∧ mR mi 169 40 = some 209 := by decide +kernel
theorem Shp.T_need {M : mM} (h : Shp M) : mT M 209 = (102, 2) := by rw [h.2.1 209 (by decide)]; exact mi_T39.1
theorem Shp.R_need {M : mM} (h : Shp M) : mR M 169 40 = some 209 := by rw [h.2.2 169 40 (by decide) (by unfold mvR; omega)]; exact mi_T39.2
set_option maxRecDepth 100000 in
set_option maxHeartbeats 4000000 in
theorem mi_T40 : mT mi 210 = (100, 2) ∧ mR mi 169 41 = some 210 := by decide +kernel
theorem Shp.T_open {M : mM} (h : Shp M) : mT M 210 = (100, 2) := by rw [h.2.1 210 (by decide)]; exact mi_T40.1
theorem Shp.R_open {M : mM} (h : Shp M) : mR M 169 41 = some 210 := by rw [h.2.2 169 41 (by decide) (by unfold mvR; omega)]; exact mi_T40.2
set_option maxRecDepth 100000 in
set_option maxHeartbeats 4000000 in
theorem mi_T41 : mT mi 211 = (100, 16) ∧ mR mi 169 42 = some 211 := by decide +kernel
theorem Shp.T_openSetting {M : mM} (h : Shp M) : mT M 211 = (100, 16) := by rw [h.2.1 211 (by decide)]; exact mi_T41.1
theorem Shp.R_openSetting {M : mM} (h : Shp M) : mR M 169 42 = some 211 := by rw [h.2.2 169 42 (by decide) (by unfold mvR; omega)]; exact mi_T41.2
set_option maxRecDepth 100000 in
set_option maxHeartbeats 4000000 in
theorem mi_T42 : mT mi 212 = (100, 16) ∧ mR mi 169 43 = some 212 := by decide +kernel
theorem Shp.T_openValue {M : mM} (h : Shp M) : mT M 212 = (100, 16) := by rw [h.2.1 212 (by decide)]; exact mi_T42.1
theorem Shp.R_openValue {M : mM} (h : Shp M) : mR M 169 43 = some 212 := by rw [h.2.2 169 43 (by decide) (by unfold mvR; omega)]; exact mi_T42.2
set_option maxRecDepth 100000 in
set_option maxHeartbeats 4000000 in
theorem mi_T43 : mT mi 213 = (100, 4) ∧ mR mi 169 44 = some 213 := by decide +kernel
theorem Shp.T_maximum {M : mM} (h : Shp M) : mT M 213 = (100, 4) := by rw [h.2.1 213 (by decide)]; exact mi_T43.1
theorem Shp.R_maximum {M : mM} (h : Shp M) : mR M 169 44 = some 213 := by rw [h.2.2 169 44 (by decide) (by unfold mvR; omega)]; exact mi_T43.2
set_option maxRecDepth 100000 in
set_option maxHeartbeats 4000000 in
theorem mi_T44 : mT mi 214 = (100, 4) ∧ mR mi 169 45 = some 214 := by decide +kernel
theorem Shp.T_size {M : mM} (h : Shp M) : mT M 214 = (100, 4) := by rw [h.2.1 214 (by decide)]; exact mi_T44.1
theorem Shp.R_size {M : mM} (h : Shp M) : mR M 169 45 = some 214 := by rw [h.2.2 169 45 (by decide) (by unfold mvR; omega)]; exact mi_T44.2
set_option maxRecDepth 100000 in
set_option maxHeartbeats 4000000 in
theorem mi_T45 : mT mi 215 = (100, 24) ∧ mR mi 169 46 = some 215 := by decide +kernel
theorem Shp.T_tableName {M : mM} (h : Shp M) : mT M 215 = (100, 24) := by rw [h.2.1 215 (by decide)]; exact mi_T45.1
theorem Shp.R_tableName {M : mM} (h : Shp M) : mR M 169 46 = some 215 := by rw [h.2.2 169 46 (by decide) (by unfold mvR; omega)]; exact mi_T45.2
set_option maxRecDepth 100000 in
set_option maxHeartbeats 4000000 in
theorem mi_T46 : mT mi 216 = (100, 24) ∧ mR mi 169 47 = some 216 := by decide +kernel
theorem Shp.T_tableValue {M : mM} (h : Shp M) : mT M 216 = (100, 24) := by rw [h.2.1 216 (by decide)]; exact mi_T46.1
theorem Shp.R_tableValue {M : mM} (h : Shp M) : mR M 169 47 = some 216 := by rw [h.2.2 169 47 (by decide) (by unfold mvR; omega)]; exact mi_T46.2
set_option maxRecDepth 100000 in
set_option maxHeartbeats 4000000 in
theorem mi_T47 : mT mi 217 = (100, 2) ∧ mR mi 169 48 = some 217 := by decide +kernel
theorem Shp.T_making {M : mM} (h : Shp M) : mT M 217 = (100, 2) := by rw [h.2.1 217 (by decide)]; exact mi_T47.1
theorem Shp.R_making {M : mM} (h : Shp M) : mR M 169 48 = some 217 := by rw [h.2.2 169 48 (by decide) (by unfold mvR; omega)]; exact mi_T47.2
set_option maxRecDepth 100000 in
set_option maxHeartbeats 4000000 in
theorem mi_T48 : mT mi 218 = (100, 12) ∧ mR mi 169 49 = some 218 := by decide +kernel
theorem Shp.T_makingName {M : mM} (h : Shp M) : mT M 218 = (100, 12) := by rw [h.2.1 218 (by decide)]; exact mi_T48.1
theorem Shp.R_makingName {M : mM} (h : Shp M) : mR M 169 49 = some 218 := by rw [h.2.2 169 49 (by decide) (by unfold mvR; omega)]; exact mi_T48.2
set_option maxRecDepth 100000 in
set_option maxHeartbeats 4000000 in
theorem mi_T49 : mT mi 219 = (100, 12) ∧ mR mi 169 50 = some 219 := by decide +kernel
theorem Shp.T_makingValue {M : mM} (h : Shp M) : mT M 219 = (100, 12) := by rw [h.2.1 219 (by decide)]; exact mi_T49.1
theorem Shp.R_makingValue {M : mM} (h : Shp M) : mR M 169 50 = some 219 := by rw [h.2.2 169 50 (by decide) (by unfold mvR; omega)]; exact mi_T49.2
set_option maxRecDepth 100000 in
set_option maxHeartbeats 4000000 in
theorem mi_T50 : mT mi 220 = (102, 12) ∧ mR mi 169 51 = some 220 := by decide +kernel
theorem Shp.T_makingSecret {M : mM} (h : Shp M) : mT M 220 = (102, 12) := by rw [h.2.1 220 (by decide)]; exact mi_T50.1
theorem Shp.R_makingSecret {M : mM} (h : Shp M) : mR M 169 51 = some 220 := by rw [h.2.2 169 51 (by decide) (by unfold mvR; omega)]; exact mi_T50.2
set_option maxRecDepth 100000 in
set_option maxHeartbeats 4000000 in
theorem mi_T51 : mT mi 221 = (100, 8) ∧ mR mi 169 53 = some 221 := by decide +kernel
theorem Shp.T_listName {M : mM} (h : Shp M) : mT M 221 = (100, 8) := by rw [h.2.1 221 (by decide)]; exact mi_T51.1
theorem Shp.R_listName {M : mM} (h : Shp M) : mR M 169 53 = some 221 := by rw [h.2.2 169 53 (by decide) (by unfold mvR; omega)]; exact mi_T51.2
set_option maxRecDepth 100000 in
set_option maxHeartbeats 4000000 in
theorem mi_T52 : mT mi 222 = (100, 8) ∧ mR mi 169 54 = some 222 := by decide +kernel
theorem Shp.T_listValue {M : mM} (h : Shp M) : mT M 222 = (100, 8) := by rw [h.2.1 222 (by decide)]; exact mi_T52.1
theorem Shp.R_listValue {M : mM} (h : Shp M) : mR M 169 54 = some 222 := by rw [h.2.2 169 54 (by decide) (by unfold mvR; omega)]; exact mi_T52.2
end
section
/-! ===== rows for numbers that are known as natural numbers ===== -/
section GR2
variable {X : mX} {l : Launch} {u : mU} {rm : Room} {bc bs : Nat} {M : mM} {ls : List (Option Value)} {st : List Value} {Q : Option Value → mM → Prop}
theorem g_top {pc : Nat} {x : Int32} (y : Int32) (h : x = y) (k : G X l u rm bc bs M pc ls (.int y :: st) Q) : G X l u rm bc bs M pc ls (.int x :: st) Q := by subst h; exact k
theorem g_topl {pc : Nat} {x : Int64} (y : Int64) (h : x = y) (k : G X l u rm bc bs M pc ls (.long y :: st) Q) : G X l u rm bc bs M pc ls (.long x :: st) Q := by subst h; exact k
theorem g_iaddN (pc : Nat) {x y : Nat} (hd : decode u.2.1 pc = .ok (.iadd, 1)) (k : G X l u rm bc bs M (pc + 1) ls (.int (nI (x + y)) :: st) Q) : G X l u rm bc bs M pc ls (.int (nI y) :: .int (nI x) :: st) Q := g_iadd pc hd (by rw [nI_add]; exact k)
theorem g_imulN (pc : Nat) {x y : Nat} (hd : decode u.2.1 pc = .ok (.imul, 1)) (k : G X l u rm bc bs M (pc + 1) ls (.int (nI (x * y)) :: st) Q) : G X l u rm bc bs M pc ls (.int (nI y) :: .int (nI x) :: st) Q := g_imul pc hd (by rw [pk_mul]; exact k)
theorem g_isubN (pc : Nat) {x y : Nat} (hd : decode u.2.1 pc = .ok (.isub, 1)) (h : y ≤ x) (k : G X l u rm bc bs M (pc + 1) ls (.int (nI (x - y)) :: st) Q) : G X l u rm bc bs M pc ls (.int (nI y) :: .int (nI x) :: st) Q := g_isub pc hd (by rw [pk_sub h]; exact k)
theorem nI_nz {y : Nat} (h0 : 0 < y) (h : y < 2 ^ 31) : ¬ nI y = 0 := nI_ne0 h0 h
theorem g_iremN (pc : Nat) {x y : Nat} (hd : decode u.2.1 pc = .ok (.irem, 1)) (hx : x < 2 ^ 31) (h0 : 0 < y) (hy : y < 2 ^ 31) (k : G X l u rm bc bs M (pc + 1) ls (.int (nI (x % y)) :: st) Q) : G X l u rm bc bs M pc ls (.int (nI y) :: .int (nI x) :: st) Q := g_irem pc hd (nI_nz h0 hy) (by rw [pk_rem hx h0 hy]; exact k)
theorem g_idivN (pc : Nat) {x y : Nat} (hd : decode u.2.1 pc = .ok (.idiv, 1)) (hx : x < 2 ^ 31) (h0 : 0 < y) (hy : y < 2 ^ 31) (k : G X l u rm bc bs M (pc + 1) ls (.int (nI (x / y)) :: st) Q) : G X l u rm bc bs M pc ls (.int (nI y) :: .int (nI x) :: st) Q := g_idiv pc hd (nI_nz h0 hy) (by rw [pk_div hx h0 hy]; exact k)
theorem g_iincN (pc : Nat) {i x : Nat} (hd : decode u.2.1 pc = .ok (.iinc i 1, 3)) (hx : ls[i]? = some (some (.int (nI x)))) (hi : i < u.2.2.1) (hk : lOK ls i = true) (k : G X l u rm bc bs M (pc + 3) (ls.set i (some (.int (nI (x + 1))))) st Q) : G X l u rm bc bs M pc ls st Q := g_iinc pc 1 hd hx rfl hi hk (by rw [nI_1]; exact k)
theorem g_icmp_eqN (pc tgt : Nat) {a b : Nat} {off : Int} (hd : decode u.2.1 pc = .ok (.if_icmp .eq off, 3)) (ht : (pc : Int) + off = (tgt : Int)) (ha : a < 2 ^ 31) (hb : b < 2 ^ 31) (kt : a = b → G X l u rm bc bs M tgt ls st Q) (kf : ¬ a = b → G X l u rm bc bs M (pc + 3) ls st Q) : G X l u rm bc bs M pc ls (.int (nI b) :: .int (nI a) :: st) Q := g_icmp_eq pc tgt hd ht (fun h => kt ((nI_eq ha hb).mp h)) (fun h => kf (fun q => h ((nI_eq ha hb).mpr q)))
theorem g_if_eqN (pc tgt : Nat) {a : Nat} {off : Int} (hd : decode u.2.1 pc = .ok (.ifCond .eq off, 3)) (ht : (pc : Int) + off = (tgt : Int)) (ha : a < 2 ^ 31) (kt : a = 0 → G X l u rm bc bs M tgt ls st Q) (kf : ¬ a = 0 → G X l u rm bc bs M (pc + 3) ls st Q) : G X l u rm bc bs M pc ls (.int (nI a) :: st) Q := g_if_eq pc tgt hd ht (fun h => kt ((nI_eq ha (by decide)).mp (by rw [nI_0]; exact h))) (fun h => kf (fun q => h (by rw [← nI_0]; exact (nI_eq ha (by decide)).mpr q)))
theorem g_icmp_neN (pc tgt : Nat) {a b : Nat} {off : Int} (hd : decode u.2.1 pc = .ok (.if_icmp .ne off, 3)) (ht : (pc : Int) + off = (tgt : Int)) (ha : a < 2 ^ 31) (hb : b < 2 ^ 31) (kt : ¬ a = b → G X l u rm bc bs M tgt ls st Q) (kf : a = b → G X l u rm bc bs M (pc + 3) ls st Q) : G X l u rm bc bs M pc ls (.int (nI b) :: .int (nI a) :: st) Q := g_icmp_ne pc tgt hd ht (fun h => kt (fun q => h ((nI_eq ha hb).mpr q))) (fun h => kf ((nI_eq ha hb).mp h))
theorem g_if_neN (pc tgt : Nat) {a : Nat} {off : Int} (hd : decode u.2.1 pc = .ok (.ifCond .ne off, 3)) (ht : (pc : Int) + off = (tgt : Int)) (ha : a < 2 ^ 31) (kt : ¬ a = 0 → G X l u rm bc bs M tgt ls st Q) (kf : a = 0 → G X l u rm bc bs M (pc + 3) ls st Q) : G X l u rm bc bs M pc ls (.int (nI a) :: st) Q := g_if_ne pc tgt hd ht (fun h => kt (fun q => h (by rw [← nI_0]; exact (nI_eq ha (by decide)).mpr q))) (fun h => kf ((nI_eq ha (by decide)).mp (by rw [nI_0]; exact h)))
theorem g_icmp_ltN (pc tgt : Nat) {a b : Nat} {off : Int} (hd : decode u.2.1 pc = .ok (.if_icmp .lt off, 3)) (ht : (pc : Int) + off = (tgt : Int)) (ha : a < 2 ^ 31) (hb : b < 2 ^ 31) (kt : a < b → G X l u rm bc bs M tgt ls st Q) (kf : ¬ a < b → G X l u rm bc bs M (pc + 3) ls st Q) : G X l u rm bc bs M pc ls (.int (nI b) :: .int (nI a) :: st) Q := g_icmp_lt pc tgt hd ht (fun h => kt ((nI_ltI ha hb).mp h)) (fun h => kf (fun q => h ((nI_ltI ha hb).mpr q)))
theorem g_if_ltN (pc tgt : Nat) {a : Nat} {off : Int} (hd : decode u.2.1 pc = .ok (.ifCond .lt off, 3)) (ht : (pc : Int) + off = (tgt : Int)) (ha : a < 2 ^ 31) (kt : a < 0 → G X l u rm bc bs M tgt ls st Q) (kf : ¬ a < 0 → G X l u rm bc bs M (pc + 3) ls st Q) : G X l u rm bc bs M pc ls (.int (nI a) :: st) Q := g_if_lt pc tgt hd ht (fun h => kt ((nI_ltI ha (by decide)).mp (by rw [nI_0]; exact h))) (fun h => kf (fun q => h (by rw [← nI_0]; exact (nI_ltI ha (by decide)).mpr q)))
theorem g_icmp_geN (pc tgt : Nat) {a b : Nat} {off : Int} (hd : decode u.2.1 pc = .ok (.if_icmp .ge off, 3)) (ht : (pc : Int) + off = (tgt : Int)) (ha : a < 2 ^ 31) (hb : b < 2 ^ 31) (kt : b ≤ a → G X l u rm bc bs M tgt ls st Q) (kf : ¬ b ≤ a → G X l u rm bc bs M (pc + 3) ls st Q) : G X l u rm bc bs M pc ls (.int (nI b) :: .int (nI a) :: st) Q := g_icmp_ge pc tgt hd ht (fun h => kt ((nI_leI hb ha).mp h)) (fun h => kf (fun q => h ((nI_leI hb ha).mpr q)))
theorem g_if_geN (pc tgt : Nat) {a : Nat} {off : Int} (hd : decode u.2.1 pc = .ok (.ifCond .ge off, 3)) (ht : (pc : Int) + off = (tgt : Int)) (ha : a < 2 ^ 31) (kt : 0 ≤ a → G X l u rm bc bs M tgt ls st Q) (kf : ¬ 0 ≤ a → G X l u rm bc bs M (pc + 3) ls st Q) : G X l u rm bc bs M pc ls (.int (nI a) :: st) Q := g_if_ge pc tgt hd ht (fun h => kt ((nI_leI (by decide) ha).mp (by rw [nI_0]; exact h))) (fun h => kf (fun q => h (by rw [← nI_0]; exact (nI_leI (by decide) ha).mpr q)))
theorem g_icmp_gtN (pc tgt : Nat) {a b : Nat} {off : Int} (hd : decode u.2.1 pc = .ok (.if_icmp .gt off, 3)) (ht : (pc : Int) + off = (tgt : Int)) (ha : a < 2 ^ 31) (hb : b < 2 ^ 31) (kt : b < a → G X l u rm bc bs M tgt ls st Q) (kf : ¬ b < a → G X l u rm bc bs M (pc + 3) ls st Q) : G X l u rm bc bs M pc ls (.int (nI b) :: .int (nI a) :: st) Q := g_icmp_gt pc tgt hd ht (fun h => kt ((nI_ltI hb ha).mp h)) (fun h => kf (fun q => h ((nI_ltI hb ha).mpr q)))
theorem g_if_gtN (pc tgt : Nat) {a : Nat} {off : Int} (hd : decode u.2.1 pc = .ok (.ifCond .gt off, 3)) (ht : (pc : Int) + off = (tgt : Int)) (ha : a < 2 ^ 31) (kt : 0 < a → G X l u rm bc bs M tgt ls st Q) (kf : ¬ 0 < a → G X l u rm bc bs M (pc + 3) ls st Q) : G X l u rm bc bs M pc ls (.int (nI a) :: st) Q := g_if_gt pc tgt hd ht (fun h => kt ((nI_ltI (by decide) ha).mp (by rw [nI_0]; exact h))) (fun h => kf (fun q => h (by rw [← nI_0]; exact (nI_ltI (by decide) ha).mpr q)))
theorem g_icmp_leN (pc tgt : Nat) {a b : Nat} {off : Int} (hd : decode u.2.1 pc = .ok (.if_icmp .le off, 3)) (ht : (pc : Int) + off = (tgt : Int)) (ha : a < 2 ^ 31) (hb : b < 2 ^ 31) (kt : a ≤ b → G X l u rm bc bs M tgt ls st Q) (kf : ¬ a ≤ b → G X l u rm bc bs M (pc + 3) ls st Q) : G X l u rm bc bs M pc ls (.int (nI b) :: .int (nI a) :: st) Q := g_icmp_le pc tgt hd ht (fun h => kt ((nI_leI ha hb).mp h)) (fun h => kf (fun q => h ((nI_leI ha hb).mpr q)))
theorem g_if_leN (pc tgt : Nat) {a : Nat} {off : Int} (hd : decode u.2.1 pc = .ok (.ifCond .le off, 3)) (ht : (pc : Int) + off = (tgt : Int)) (ha : a < 2 ^ 31) (kt : a ≤ 0 → G X l u rm bc bs M tgt ls st Q) (kf : ¬ a ≤ 0 → G X l u rm bc bs M (pc + 3) ls st Q) : G X l u rm bc bs M pc ls (.int (nI a) :: st) Q := g_if_le pc tgt hd ht (fun h => kt ((nI_leI ha (by decide)).mp (by rw [nI_0]; exact h))) (fun h => kf (fun q => h (by rw [← nI_0]; exact (nI_leI ha (by decide)).mpr q)))
theorem g_ialdN (pc : Nat) {a n j : Nat} (hd : decode u.2.1 pc = .ok (.iaload, 1)) (hT : mT M a = (100, n)) (hj : j < n) (hn : n < 2 ^ 31) (k : G X l u rm bc bs M (pc + 1) ls (.int (mI M a j) :: st) Q) : G X l u rm bc bs M pc ls (.int (nI j) :: .ref a :: st) Q := g_iald pc hd hT (vp_in_nI hj hn) (by rw [nI_clamp (by omega)]; exact k)
theorem g_baldN (pc : Nat) {a n j : Nat} (hd : decode u.2.1 pc = .ok (.baload, 1)) (hT : mT M a = (101, n)) (hj : j < n) (hn : n < 2 ^ 31) (k : G X l u rm bc bs M (pc + 1) ls (.int (mI M a j) :: st) Q) : G X l u rm bc bs M pc ls (.int (nI j) :: .ref a :: st) Q := g_bald pc hd hT (vp_in_nI hj hn) (by rw [nI_clamp (by omega)]; exact k)
theorem g_zaldN (pc : Nat) {a n j : Nat} (hd : decode u.2.1 pc = .ok (.baload, 1)) (hT : mT M a = (102, n)) (hj : j < n) (hn : n < 2 ^ 31) (k : G X l u rm bc bs M (pc + 1) ls (.int (mI M a j) :: st) Q) : G X l u rm bc bs M pc ls (.int (nI j) :: .ref a :: st) Q := g_zald pc hd hT (vp_in_nI hj hn) (by rw [nI_clamp (by omega)]; exact k)
theorem g_laldN (pc : Nat) {a n j : Nat} (hd : decode u.2.1 pc = .ok (.laload, 1)) (hT : mT M a = (103, n)) (hj : j < n) (hn : n < 2 ^ 31) (k : G X l u rm bc bs M (pc + 1) ls (.long (mL M a j) :: st) Q) : G X l u rm bc bs M pc ls (.int (nI j) :: .ref a :: st) Q := g_lald pc hd hT (vp_in_nI hj hn) (by rw [nI_clamp (by omega)]; exact k)
theorem g_iastN (pc : Nat) {a n j : Nat} {x : Int32} (hd : decode u.2.1 pc = .ok (.iastore, 1)) (hT : mT M a = (100, n)) (hj : j < n) (hn : n < 2 ^ 31) (k : G X l u rm bc bs (setI M a j x) (pc + 1) ls st Q) : G X l u rm bc bs M pc ls (.int x :: .int (nI j) :: .ref a :: st) Q := g_iast pc hd hT (vp_in_nI hj hn) (by rw [nI_clamp (by omega)]; exact k)
theorem g_zastN (pc : Nat) {a n j : Nat} {x : Int32} (hd : decode u.2.1 pc = .ok (.bastore, 1)) (hT : mT M a = (102, n)) (hj : j < n) (hn : n < 2 ^ 31) (hz : x = 0 ∨ x = 1) (k : G X l u rm bc bs (setI M a j x) (pc + 1) ls st Q) : G X l u rm bc bs M pc ls (.int x :: .int (nI j) :: .ref a :: st) Q := g_zast pc hd hT (vp_in_nI hj hn) hz (by rw [nI_clamp (by omega)]; exact k)
theorem g_bastN (pc : Nat) {a n j : Nat} {x : Int32} (hd : decode u.2.1 pc = .ok (.bastore, 1)) (hT : mT M a = (101, n)) (hj : j < n) (hn : n < 2 ^ 31) (k : G X l u rm bc bs (setI M a j x.toInt8.toInt32) (pc + 1) ls st Q) : G X l u rm bc bs M pc ls (.int x :: .int (nI j) :: .ref a :: st) Q := g_bast pc hd hT (vp_in_nI hj hn) (by rw [nI_clamp (by omega)]; exact k)
theorem g_lastN (pc : Nat) {a n j : Nat} {x : Int64} (hd : decode u.2.1 pc = .ok (.lastore, 1)) (hT : mT M a = (103, n)) (hj : j < n) (hn : n < 2 ^ 31) (k : G X l u rm bc bs (setL M a j x) (pc + 1) ls st Q) : G X l u rm bc bs M pc ls (.long x :: .int (nI j) :: .ref a :: st) Q := g_last pc hd hT (vp_in_nI hj hn) (by rw [nI_clamp (by omega)]; exact k)
theorem g_aaldN (pc : Nat) {a n j : Nat} (t : Nat) {o : Option Nat} {C : String} (hd : decode u.2.1 pc = .ok (.aaload, 1)) (ht : (mTys X)[t]? = some (xK X (100 + t), .object C)) (h4 : 4 ≤ t) (hT : mT M a = (100 + t, n)) (hj : j < n) (hn : n < 2 ^ 31) (ho : mR M a j = o) (k : G X l u rm bc bs M (pc + 1) ls (va_rf o :: st) Q) : G X l u rm bc bs M pc ls (.int (nI j) :: .ref a :: st) Q := g_aald pc t hd ht h4 hT (vp_in_nI hj hn) (by rw [nI_clamp (by omega)]; exact ho) k
theorem g_aastNN (pc : Nat) {a n j : Nat} (t : Nat) {C : String} (hd : decode u.2.1 pc = .ok (.aastore, 1)) (ht : (mTys X)[t]? = some (xK X (100 + t), .object C)) (h4 : 4 ≤ t) (hT : mT M a = (100 + t, n)) (hj : j < n) (hn : n < 2 ^ 31) (k : G X l u rm bc bs (setR M a j none) (pc + 1) ls st Q) : G X l u rm bc bs M pc ls (.null :: .int (nI j) :: .ref a :: st) Q := g_aastN pc t hd ht h4 hT (vp_in_nI hj hn) (by rw [nI_clamp (by omega)]; exact k)
theorem g_aastR (pc : Nat) {a n b ci j : Nat} (t : Nat) {C : String} {T : u_T} {N : Nat} (hd : decode u.2.1 pc = .ok (.aastore, 1)) (ht : (mTys X)[t]? = some (xK X (100 + t), .object C)) (h4 : 4 ≤ t) (hT : mT M a = (100 + t, n)) (hj : j < n) (hn : n < 2 ^ 31) (hb : (mT M b).1 = ci) (hc1 : ci < 100) (hcl : vwCl[ci]? = some (C, T, N)) (k : G X l u rm bc bs (setR M a j (some b)) (pc + 1) ls st Q) : G X l u rm bc bs M pc ls (.ref b :: .int (nI j) :: .ref a :: st) Q := g_aast pc t hd ht h4 hT (vp_in_nI hj hn) hb hc1 hcl (by rw [nI_clamp (by omega)]; exact k)
theorem g_oaldN (pc : Nat) {a j : Nat} (ha : a < 3) (hd : decode u.2.1 pc = .ok (.iaload, 1)) (hj : j < xL X a) (hn : xL X a < 2 ^ 31) (k : G X l u rm bc bs M (pc + 1) ls (.int (xI X a j) :: st) Q) : G X l u rm bc bs M pc ls (.int (nI j) :: .ref a :: st) Q := g_oald pc ha hd (vp_in_nI hj hn) (by rw [nI_clamp (by omega)]; exact k)
end GR2
end
section
theorem dMod_isEnd_0 : decode uMod_isEnd.2.1 0 = .ok (.iload_n 0, 1) := by decide +kernel
theorem dMod_isEnd_1 : decode uMod_isEnd.2.1 1 = .ok (.ifCond .eq 8, 3) := by decide +kernel
theorem dMod_isEnd_4 : decode uMod_isEnd.2.1 4 = .ok (.iload_n 0, 1) := by decide +kernel
theorem dMod_isEnd_5 : decode uMod_isEnd.2.1 5 = .ok (.iconst 1, 1) := by decide +kernel
theorem dMod_isEnd_6 : decode uMod_isEnd.2.1 6 = .ok (.if_icmp .ne 7, 3) := by decide +kernel
theorem dMod_isEnd_9 : decode uMod_isEnd.2.1 9 = .ok (.iconst 1, 1) := by decide +kernel
theorem dMod_isEnd_10 : decode uMod_isEnd.2.1 10 = .ok (.goto 4, 3) := by decide +kernel
theorem dMod_isEnd_13 : decode uMod_isEnd.2.1 13 = .ok (.iconst 0, 1) := by decide +kernel
theorem dMod_isEnd_14 : decode uMod_isEnd.2.1 14 = .ok (.ireturn, 1) := by decide +kernel
theorem dMod_isStream_0 : decode uMod_isStream.2.1 0 = .ok (.iload_n 0, 1) := by decide +kernel
theorem dMod_isStream_1 : decode uMod_isStream.2.1 1 = .ok (.iconst 1, 1) := by decide +kernel
theorem dMod_isStream_2 : decode uMod_isStream.2.1 2 = .ok (.if_icmp .lt 20, 3) := by decide +kernel
theorem dMod_isStream_5 : decode uMod_isStream.2.1 5 = .ok (.iload_n 0, 1) := by decide +kernel
theorem dMod_isStream_6 : decode uMod_isStream.2.1 6 = .ok (.bipush 23, 2) := by decide +kernel
theorem dMod_isStream_8 : decode uMod_isStream.2.1 8 = .ok (.if_icmp .gt 14, 3) := by decide +kernel
theorem dMod_isStream_11 : decode uMod_isStream.2.1 11 = .ok (.iload_n 0, 1) := by decide +kernel
theorem dMod_isStream_12 : decode uMod_isStream.2.1 12 = .ok (.iconst 1, 1) := by decide +kernel
theorem dMod_isStream_13 : decode uMod_isStream.2.1 13 = .ok (.iand, 1) := by decide +kernel
theorem dMod_isStream_14 : decode uMod_isStream.2.1 14 = .ok (.iconst 1, 1) := by decide +kernel
theorem dMod_isStream_15 : decode uMod_isStream.2.1 15 = .ok (.if_icmp .ne 7, 3) := by decide +kernel
theorem dMod_isStream_18 : decode uMod_isStream.2.1 18 = .ok (.iconst 1, 1) := by decide +kernel
theorem dMod_isStream_19 : decode uMod_isStream.2.1 19 = .ok (.goto 4, 3) := by decide +kernel
theorem dMod_isStream_22 : decode uMod_isStream.2.1 22 = .ok (.iconst 0, 1) := by decide +kernel
theorem dMod_isStream_23 : decode uMod_isStream.2.1 23 = .ok (.ireturn, 1) := by decide +kernel
theorem dMod_at_0 : decode uMod_at.2.1 0 = .ok (.bipush 12, 2) := by decide +kernel
theorem dMod_at_2 : decode uMod_at.2.1 2 = .ok (.iload_n 0, 1) := by decide +kernel
theorem dMod_at_3 : decode uMod_at.2.1 3 = .ok (.imul, 1) := by decide +kernel
theorem dMod_at_4 : decode uMod_at.2.1 4 = .ok (.iload_n 1, 1) := by decide +kernel
theorem dMod_at_5 : decode uMod_at.2.1 5 = .ok (.iconst 2, 1) := by decide +kernel
theorem dMod_at_6 : decode uMod_at.2.1 6 = .ok (.idiv, 1) := by decide +kernel
theorem dMod_at_7 : decode uMod_at.2.1 7 = .ok (.iadd, 1) := by decide +kernel
theorem dMod_at_8 : decode uMod_at.2.1 8 = .ok (.ireturn, 1) := by decide +kernel
theorem dMod_up_0 : decode uMod_up.2.1 0 = .ok (.iload_n 1, 1) := by decide +kernel
theorem dMod_up_1 : decode uMod_up.2.1 1 = .ok (.invokestatic 171, 3) := by decide +kernel
theorem dMod_up_4 : decode uMod_up.2.1 4 = .ok (.ifCond .eq 16, 3) := by decide +kernel
theorem dMod_up_7 : decode uMod_up.2.1 7 = .ok (.aload_n 0, 1) := by decide +kernel
theorem dMod_up_8 : decode uMod_up.2.1 8 = .ok (.getfield 7, 3) := by decide +kernel
theorem dMod_up_11 : decode uMod_up.2.1 11 = .ok (.iload_n 1, 1) := by decide +kernel
theorem dMod_up_12 : decode uMod_up.2.1 12 = .ok (.iaload, 1) := by decide +kernel
theorem dMod_up_13 : decode uMod_up.2.1 13 = .ok (.ifCond .ne 7, 3) := by decide +kernel
theorem dMod_up_16 : decode uMod_up.2.1 16 = .ok (.iconst 1, 1) := by decide +kernel
theorem dMod_up_17 : decode uMod_up.2.1 17 = .ok (.goto 4, 3) := by decide +kernel
theorem dMod_up_20 : decode uMod_up.2.1 20 = .ok (.iconst 0, 1) := by decide +kernel
theorem dMod_up_21 : decode uMod_up.2.1 21 = .ok (.ireturn, 1) := by decide +kernel
theorem dMod_stateAt_0 : decode uMod_stateAt.2.1 0 = .ok (.aload_n 0, 1) := by decide +kernel
theorem dMod_stateAt_1 : decode uMod_stateAt.2.1 1 = .ok (.getfield 51, 3) := by decide +kernel
theorem dMod_stateAt_4 : decode uMod_stateAt.2.1 4 = .ok (.iload_n 1, 1) := by decide +kernel
theorem dMod_stateAt_5 : decode uMod_stateAt.2.1 5 = .ok (.baload, 1) := by decide +kernel
theorem dMod_stateAt_6 : decode uMod_stateAt.2.1 6 = .ok (.ifCond .ne 5, 3) := by decide +kernel
theorem dMod_stateAt_9 : decode uMod_stateAt.2.1 9 = .ok (.iconst 0, 1) := by decide +kernel
theorem dMod_stateAt_10 : decode uMod_stateAt.2.1 10 = .ok (.ireturn, 1) := by decide +kernel
theorem dMod_stateAt_11 : decode uMod_stateAt.2.1 11 = .ok (.aload_n 0, 1) := by decide +kernel
theorem dMod_stateAt_12 : decode uMod_stateAt.2.1 12 = .ok (.getfield 54, 3) := by decide +kernel
theorem dMod_stateAt_15 : decode uMod_stateAt.2.1 15 = .ok (.iload_n 1, 1) := by decide +kernel
theorem dMod_stateAt_16 : decode uMod_stateAt.2.1 16 = .ok (.baload, 1) := by decide +kernel
theorem dMod_stateAt_17 : decode uMod_stateAt.2.1 17 = .ok (.ifCond .ne 21, 3) := by decide +kernel
theorem dMod_stateAt_20 : decode uMod_stateAt.2.1 20 = .ok (.aload_n 0, 1) := by decide +kernel
theorem dMod_stateAt_21 : decode uMod_stateAt.2.1 21 = .ok (.getfield 57, 3) := by decide +kernel
theorem dMod_stateAt_24 : decode uMod_stateAt.2.1 24 = .ok (.iload_n 1, 1) := by decide +kernel
theorem dMod_stateAt_25 : decode uMod_stateAt.2.1 25 = .ok (.baload, 1) := by decide +kernel
theorem dMod_stateAt_26 : decode uMod_stateAt.2.1 26 = .ok (.ifCond .eq 14, 3) := by decide +kernel
theorem dMod_stateAt_29 : decode uMod_stateAt.2.1 29 = .ok (.aload_n 0, 1) := by decide +kernel
theorem dMod_stateAt_30 : decode uMod_stateAt.2.1 30 = .ok (.getfield 60, 3) := by decide +kernel
theorem dMod_stateAt_33 : decode uMod_stateAt.2.1 33 = .ok (.iload_n 1, 1) := by decide +kernel
theorem dMod_stateAt_34 : decode uMod_stateAt.2.1 34 = .ok (.baload, 1) := by decide +kernel
theorem dMod_stateAt_35 : decode uMod_stateAt.2.1 35 = .ok (.ifCond .eq 5, 3) := by decide +kernel
theorem dMod_stateAt_38 : decode uMod_stateAt.2.1 38 = .ok (.iconst 4, 1) := by decide +kernel
theorem dMod_stateAt_39 : decode uMod_stateAt.2.1 39 = .ok (.ireturn, 1) := by decide +kernel
theorem dMod_stateAt_40 : decode uMod_stateAt.2.1 40 = .ok (.aload_n 0, 1) := by decide +kernel
theorem dMod_stateAt_41 : decode uMod_stateAt.2.1 41 = .ok (.getfield 57, 3) := by decide +kernel
theorem dMod_stateAt_44 : decode uMod_stateAt.2.1 44 = .ok (.iload_n 1, 1) := by decide +kernel
theorem dMod_stateAt_45 : decode uMod_stateAt.2.1 45 = .ok (.baload, 1) := by decide +kernel
theorem dMod_stateAt_46 : decode uMod_stateAt.2.1 46 = .ok (.ifCond .eq 7, 3) := by decide +kernel
theorem dMod_stateAt_49 : decode uMod_stateAt.2.1 49 = .ok (.iconst 2, 1) := by decide +kernel
theorem dMod_stateAt_50 : decode uMod_stateAt.2.1 50 = .ok (.goto 17, 3) := by decide +kernel
theorem dMod_stateAt_53 : decode uMod_stateAt.2.1 53 = .ok (.aload_n 0, 1) := by decide +kernel
theorem dMod_stateAt_54 : decode uMod_stateAt.2.1 54 = .ok (.getfield 60, 3) := by decide +kernel
theorem dMod_stateAt_57 : decode uMod_stateAt.2.1 57 = .ok (.iload_n 1, 1) := by decide +kernel
theorem dMod_stateAt_58 : decode uMod_stateAt.2.1 58 = .ok (.baload, 1) := by decide +kernel
theorem dMod_stateAt_59 : decode uMod_stateAt.2.1 59 = .ok (.ifCond .eq 7, 3) := by decide +kernel
theorem dMod_stateAt_62 : decode uMod_stateAt.2.1 62 = .ok (.iconst 3, 1) := by decide +kernel
theorem dMod_stateAt_63 : decode uMod_stateAt.2.1 63 = .ok (.goto 4, 3) := by decide +kernel
theorem dMod_stateAt_66 : decode uMod_stateAt.2.1 66 = .ok (.iconst 1, 1) := by decide +kernel
theorem dMod_stateAt_67 : decode uMod_stateAt.2.1 67 = .ok (.ireturn, 1) := by decide +kernel
theorem dMod_active_0 : decode uMod_active.2.1 0 = .ok (.aload_n 0, 1) := by decide +kernel
theorem dMod_active_1 : decode uMod_active.2.1 1 = .ok (.iload_n 1, 1) := by decide +kernel
theorem dMod_active_2 : decode uMod_active.2.1 2 = .ok (.invokevirtual 175, 3) := by decide +kernel
theorem dMod_active_5 : decode uMod_active.2.1 5 = .ok (.istore_n 2, 1) := by decide +kernel
theorem dMod_active_6 : decode uMod_active.2.1 6 = .ok (.iload_n 2, 1) := by decide +kernel
theorem dMod_active_7 : decode uMod_active.2.1 7 = .ok (.iconst 1, 1) := by decide +kernel
theorem dMod_active_8 : decode uMod_active.2.1 8 = .ok (.if_icmp .lt 12, 3) := by decide +kernel
theorem dMod_active_11 : decode uMod_active.2.1 11 = .ok (.iload_n 2, 1) := by decide +kernel
theorem dMod_active_12 : decode uMod_active.2.1 12 = .ok (.iconst 3, 1) := by decide +kernel
theorem dMod_active_13 : decode uMod_active.2.1 13 = .ok (.if_icmp .gt 7, 3) := by decide +kernel
theorem dMod_active_16 : decode uMod_active.2.1 16 = .ok (.iconst 1, 1) := by decide +kernel
theorem dMod_active_17 : decode uMod_active.2.1 17 = .ok (.goto 4, 3) := by decide +kernel
theorem dMod_active_20 : decode uMod_active.2.1 20 = .ok (.iconst 0, 1) := by decide +kernel
theorem dMod_active_21 : decode uMod_active.2.1 21 = .ok (.ireturn, 1) := by decide +kernel
theorem dMod_activeAt_0 : decode uMod_activeAt.2.1 0 = .ok (.iconst 0, 1) := by decide +kernel
theorem dMod_activeAt_1 : decode uMod_activeAt.2.1 1 = .ok (.istore_n 2, 1) := by decide +kernel
theorem dMod_activeAt_2 : decode uMod_activeAt.2.1 2 = .ok (.iconst 0, 1) := by decide +kernel
theorem dMod_activeAt_3 : decode uMod_activeAt.2.1 3 = .ok (.istore_n 3, 1) := by decide +kernel
theorem dMod_activeAt_4 : decode uMod_activeAt.2.1 4 = .ok (.iload_n 3, 1) := by decide +kernel
theorem dMod_activeAt_5 : decode uMod_activeAt.2.1 5 = .ok (.bipush 12, 2) := by decide +kernel
theorem dMod_activeAt_7 : decode uMod_activeAt.2.1 7 = .ok (.if_icmp .ge 30, 3) := by decide +kernel
theorem dMod_activeAt_10 : decode uMod_activeAt.2.1 10 = .ok (.aload_n 0, 1) := by decide +kernel
theorem dMod_activeAt_11 : decode uMod_activeAt.2.1 11 = .ok (.bipush 12, 2) := by decide +kernel
theorem dMod_activeAt_13 : decode uMod_activeAt.2.1 13 = .ok (.iload_n 1, 1) := by decide +kernel
theorem dMod_activeAt_14 : decode uMod_activeAt.2.1 14 = .ok (.imul, 1) := by decide +kernel
theorem dMod_activeAt_15 : decode uMod_activeAt.2.1 15 = .ok (.iload_n 3, 1) := by decide +kernel
theorem dMod_activeAt_16 : decode uMod_activeAt.2.1 16 = .ok (.iadd, 1) := by decide +kernel
theorem dMod_activeAt_17 : decode uMod_activeAt.2.1 17 = .ok (.invokevirtual 179, 3) := by decide +kernel
theorem dMod_activeAt_20 : decode uMod_activeAt.2.1 20 = .ok (.ifCond .eq 9, 3) := by decide +kernel
theorem dMod_activeAt_23 : decode uMod_activeAt.2.1 23 = .ok (.iload_n 2, 1) := by decide +kernel
theorem dMod_activeAt_24 : decode uMod_activeAt.2.1 24 = .ok (.iconst 1, 1) := by decide +kernel
theorem dMod_activeAt_25 : decode uMod_activeAt.2.1 25 = .ok (.iadd, 1) := by decide +kernel
theorem dMod_activeAt_26 : decode uMod_activeAt.2.1 26 = .ok (.goto 4, 3) := by decide +kernel
theorem dMod_activeAt_29 : decode uMod_activeAt.2.1 29 = .ok (.iload_n 2, 1) := by decide +kernel
theorem dMod_activeAt_30 : decode uMod_activeAt.2.1 30 = .ok (.istore_n 2, 1) := by decide +kernel
theorem dMod_activeAt_31 : decode uMod_activeAt.2.1 31 = .ok (.iinc 3 1, 3) := by decide +kernel
theorem dMod_activeAt_34 : decode uMod_activeAt.2.1 34 = .ok (.goto (-30), 3) := by decide +kernel
theorem dMod_activeAt_37 : decode uMod_activeAt.2.1 37 = .ok (.iload_n 2, 1) := by decide +kernel
theorem dMod_activeAt_38 : decode uMod_activeAt.2.1 38 = .ok (.ireturn, 1) := by decide +kernel
theorem dMod_sendWindow_0 : decode uMod_sendWindow.2.1 0 = .ok (.aload_n 0, 1) := by decide +kernel
theorem dMod_sendWindow_1 : decode uMod_sendWindow.2.1 1 = .ok (.getfield 120, 3) := by decide +kernel
theorem dMod_sendWindow_4 : decode uMod_sendWindow.2.1 4 = .ok (.iconst 3, 1) := by decide +kernel
theorem dMod_sendWindow_5 : decode uMod_sendWindow.2.1 5 = .ok (.iload_n 1, 1) := by decide +kernel
theorem dMod_sendWindow_6 : decode uMod_sendWindow.2.1 6 = .ok (.bipush 12, 2) := by decide +kernel
theorem dMod_sendWindow_8 : decode uMod_sendWindow.2.1 8 = .ok (.idiv, 1) := by decide +kernel
theorem dMod_sendWindow_9 : decode uMod_sendWindow.2.1 9 = .ok (.imul, 1) := by decide +kernel
theorem dMod_sendWindow_10 : decode uMod_sendWindow.2.1 10 = .ok (.iconst 2, 1) := by decide +kernel
theorem dMod_sendWindow_11 : decode uMod_sendWindow.2.1 11 = .ok (.iadd, 1) := by decide +kernel
theorem dMod_sendWindow_12 : decode uMod_sendWindow.2.1 12 = .ok (.iaload, 1) := by decide +kernel
theorem dMod_sendWindow_13 : decode uMod_sendWindow.2.1 13 = .ok (.aload_n 0, 1) := by decide +kernel
theorem dMod_sendWindow_14 : decode uMod_sendWindow.2.1 14 = .ok (.getfield 75, 3) := by decide +kernel
theorem dMod_sendWindow_17 : decode uMod_sendWindow.2.1 17 = .ok (.iload_n 1, 1) := by decide +kernel
theorem dMod_sendWindow_18 : decode uMod_sendWindow.2.1 18 = .ok (.iaload, 1) := by decide +kernel
theorem dMod_sendWindow_19 : decode uMod_sendWindow.2.1 19 = .ok (.iadd, 1) := by decide +kernel
theorem dMod_sendWindow_20 : decode uMod_sendWindow.2.1 20 = .ok (.aload_n 0, 1) := by decide +kernel
theorem dMod_sendWindow_21 : decode uMod_sendWindow.2.1 21 = .ok (.getfield 72, 3) := by decide +kernel
theorem dMod_sendWindow_24 : decode uMod_sendWindow.2.1 24 = .ok (.iload_n 1, 1) := by decide +kernel
theorem dMod_sendWindow_25 : decode uMod_sendWindow.2.1 25 = .ok (.iaload, 1) := by decide +kernel
theorem dMod_sendWindow_26 : decode uMod_sendWindow.2.1 26 = .ok (.isub, 1) := by decide +kernel
theorem dMod_sendWindow_27 : decode uMod_sendWindow.2.1 27 = .ok (.ireturn, 1) := by decide +kernel
theorem dMod_receiveWindow_0 : decode uMod_receiveWindow.2.1 0 = .ok (.aload_n 0, 1) := by decide +kernel
theorem dMod_receiveWindow_1 : decode uMod_receiveWindow.2.1 1 = .ok (.getfield 117, 3) := by decide +kernel
theorem dMod_receiveWindow_4 : decode uMod_receiveWindow.2.1 4 = .ok (.iconst 3, 1) := by decide +kernel
theorem dMod_receiveWindow_5 : decode uMod_receiveWindow.2.1 5 = .ok (.iload_n 1, 1) := by decide +kernel
theorem dMod_receiveWindow_6 : decode uMod_receiveWindow.2.1 6 = .ok (.bipush 12, 2) := by decide +kernel
theorem dMod_receiveWindow_8 : decode uMod_receiveWindow.2.1 8 = .ok (.idiv, 1) := by decide +kernel
theorem dMod_receiveWindow_9 : decode uMod_receiveWindow.2.1 9 = .ok (.imul, 1) := by decide +kernel
theorem dMod_receiveWindow_10 : decode uMod_receiveWindow.2.1 10 = .ok (.iconst 2, 1) := by decide +kernel
theorem dMod_receiveWindow_11 : decode uMod_receiveWindow.2.1 11 = .ok (.iadd, 1) := by decide +kernel
theorem dMod_receiveWindow_12 : decode uMod_receiveWindow.2.1 12 = .ok (.iaload, 1) := by decide +kernel
theorem dMod_receiveWindow_13 : decode uMod_receiveWindow.2.1 13 = .ok (.aload_n 0, 1) := by decide +kernel
theorem dMod_receiveWindow_14 : decode uMod_receiveWindow.2.1 14 = .ok (.getfield 81, 3) := by decide +kernel
theorem dMod_receiveWindow_17 : decode uMod_receiveWindow.2.1 17 = .ok (.iload_n 1, 1) := by decide +kernel
theorem dMod_receiveWindow_18 : decode uMod_receiveWindow.2.1 18 = .ok (.iaload, 1) := by decide +kernel
theorem dMod_receiveWindow_19 : decode uMod_receiveWindow.2.1 19 = .ok (.iadd, 1) := by decide +kernel
theorem dMod_receiveWindow_20 : decode uMod_receiveWindow.2.1 20 = .ok (.aload_n 0, 1) := by decide +kernel
theorem dMod_receiveWindow_21 : decode uMod_receiveWindow.2.1 21 = .ok (.getfield 78, 3) := by decide +kernel
theorem dMod_receiveWindow_24 : decode uMod_receiveWindow.2.1 24 = .ok (.iload_n 1, 1) := by decide +kernel
theorem dMod_receiveWindow_25 : decode uMod_receiveWindow.2.1 25 = .ok (.iaload, 1) := by decide +kernel
theorem dMod_receiveWindow_26 : decode uMod_receiveWindow.2.1 26 = .ok (.isub, 1) := by decide +kernel
theorem dMod_receiveWindow_27 : decode uMod_receiveWindow.2.1 27 = .ok (.ireturn, 1) := by decide +kernel
theorem dMod_linkSend_0 : decode uMod_linkSend.2.1 0 = .ok (.bipush 40, 2) := by decide +kernel
theorem dMod_linkSend_2 : decode uMod_linkSend.2.1 2 = .ok (.aload_n 0, 1) := by decide +kernel
theorem dMod_linkSend_3 : decode uMod_linkSend.2.1 3 = .ok (.getfield 111, 3) := by decide +kernel
theorem dMod_linkSend_6 : decode uMod_linkSend.2.1 6 = .ok (.iload_n 1, 1) := by decide +kernel
theorem dMod_linkSend_7 : decode uMod_linkSend.2.1 7 = .ok (.iaload, 1) := by decide +kernel
theorem dMod_linkSend_8 : decode uMod_linkSend.2.1 8 = .ok (.iadd, 1) := by decide +kernel
theorem dMod_linkSend_9 : decode uMod_linkSend.2.1 9 = .ok (.aload_n 0, 1) := by decide +kernel
theorem dMod_linkSend_10 : decode uMod_linkSend.2.1 10 = .ok (.getfield 108, 3) := by decide +kernel
theorem dMod_linkSend_13 : decode uMod_linkSend.2.1 13 = .ok (.iload_n 1, 1) := by decide +kernel
theorem dMod_linkSend_14 : decode uMod_linkSend.2.1 14 = .ok (.iaload, 1) := by decide +kernel
theorem dMod_linkSend_15 : decode uMod_linkSend.2.1 15 = .ok (.isub, 1) := by decide +kernel
theorem dMod_linkSend_16 : decode uMod_linkSend.2.1 16 = .ok (.ireturn, 1) := by decide +kernel
theorem dMod_linkReceive_0 : decode uMod_linkReceive.2.1 0 = .ok (.bipush 40, 2) := by decide +kernel
theorem dMod_linkReceive_2 : decode uMod_linkReceive.2.1 2 = .ok (.aload_n 0, 1) := by decide +kernel
theorem dMod_linkReceive_3 : decode uMod_linkReceive.2.1 3 = .ok (.getfield 99, 3) := by decide +kernel
theorem dMod_linkReceive_6 : decode uMod_linkReceive.2.1 6 = .ok (.iload_n 1, 1) := by decide +kernel
theorem dMod_linkReceive_7 : decode uMod_linkReceive.2.1 7 = .ok (.iaload, 1) := by decide +kernel
theorem dMod_linkReceive_8 : decode uMod_linkReceive.2.1 8 = .ok (.isub, 1) := by decide +kernel
theorem dMod_linkReceive_9 : decode uMod_linkReceive.2.1 9 = .ok (.ireturn, 1) := by decide +kernel
theorem dMod_push_0 : decode uMod_push.2.1 0 = .ok (.bipush 48, 2) := by decide +kernel
theorem dMod_push_2 : decode uMod_push.2.1 2 = .ok (.iload_n 1, 1) := by decide +kernel
theorem dMod_push_3 : decode uMod_push.2.1 3 = .ok (.imul, 1) := by decide +kernel
theorem dMod_push_4 : decode uMod_push.2.1 4 = .ok (.aload_n 0, 1) := by decide +kernel
theorem dMod_push_5 : decode uMod_push.2.1 5 = .ok (.getfield 13, 3) := by decide +kernel
theorem dMod_push_8 : decode uMod_push.2.1 8 = .ok (.iload_n 1, 1) := by decide +kernel
theorem dMod_push_9 : decode uMod_push.2.1 9 = .ok (.iaload, 1) := by decide +kernel
theorem dMod_push_10 : decode uMod_push.2.1 10 = .ok (.aload_n 0, 1) := by decide +kernel
theorem dMod_push_11 : decode uMod_push.2.1 11 = .ok (.getfield 16, 3) := by decide +kernel
theorem dMod_push_14 : decode uMod_push.2.1 14 = .ok (.iload_n 1, 1) := by decide +kernel
theorem dMod_push_15 : decode uMod_push.2.1 15 = .ok (.iaload, 1) := by decide +kernel
theorem dMod_push_16 : decode uMod_push.2.1 16 = .ok (.iadd, 1) := by decide +kernel
theorem dMod_push_17 : decode uMod_push.2.1 17 = .ok (.bipush 48, 2) := by decide +kernel
theorem dMod_push_19 : decode uMod_push.2.1 19 = .ok (.irem, 1) := by decide +kernel
theorem dMod_push_20 : decode uMod_push.2.1 20 = .ok (.iadd, 1) := by decide +kernel
theorem dMod_push_21 : decode uMod_push.2.1 21 = .ok (.istore 6, 2) := by decide +kernel
theorem dMod_push_23 : decode uMod_push.2.1 23 = .ok (.aload_n 0, 1) := by decide +kernel
theorem dMod_push_24 : decode uMod_push.2.1 24 = .ok (.getfield 19, 3) := by decide +kernel
theorem dMod_push_27 : decode uMod_push.2.1 27 = .ok (.iload 6, 2) := by decide +kernel
theorem dMod_push_29 : decode uMod_push.2.1 29 = .ok (.iload_n 2, 1) := by decide +kernel
theorem dMod_push_30 : decode uMod_push.2.1 30 = .ok (.iastore, 1) := by decide +kernel
theorem dMod_push_31 : decode uMod_push.2.1 31 = .ok (.aload_n 0, 1) := by decide +kernel
theorem dMod_push_32 : decode uMod_push.2.1 32 = .ok (.getfield 22, 3) := by decide +kernel
theorem dMod_push_35 : decode uMod_push.2.1 35 = .ok (.iload 6, 2) := by decide +kernel
theorem dMod_push_37 : decode uMod_push.2.1 37 = .ok (.iload_n 3, 1) := by decide +kernel
theorem dMod_push_38 : decode uMod_push.2.1 38 = .ok (.iastore, 1) := by decide +kernel
theorem dMod_push_39 : decode uMod_push.2.1 39 = .ok (.aload_n 0, 1) := by decide +kernel
theorem dMod_push_40 : decode uMod_push.2.1 40 = .ok (.getfield 25, 3) := by decide +kernel
theorem dMod_push_43 : decode uMod_push.2.1 43 = .ok (.iload 6, 2) := by decide +kernel
theorem dMod_push_45 : decode uMod_push.2.1 45 = .ok (.iload 4, 2) := by decide +kernel
theorem dMod_push_47 : decode uMod_push.2.1 47 = .ok (.iastore, 1) := by decide +kernel
theorem dMod_push_48 : decode uMod_push.2.1 48 = .ok (.aload_n 0, 1) := by decide +kernel
theorem dMod_push_49 : decode uMod_push.2.1 49 = .ok (.getfield 28, 3) := by decide +kernel
theorem dMod_push_52 : decode uMod_push.2.1 52 = .ok (.iload 6, 2) := by decide +kernel
theorem dMod_push_54 : decode uMod_push.2.1 54 = .ok (.iload 5, 2) := by decide +kernel
theorem dMod_push_56 : decode uMod_push.2.1 56 = .ok (.bastore, 1) := by decide +kernel
theorem dMod_push_57 : decode uMod_push.2.1 57 = .ok (.aload_n 0, 1) := by decide +kernel
theorem dMod_push_58 : decode uMod_push.2.1 58 = .ok (.getfield 32, 3) := by decide +kernel
theorem dMod_push_61 : decode uMod_push.2.1 61 = .ok (.iload 6, 2) := by decide +kernel
theorem dMod_push_63 : decode uMod_push.2.1 63 = .ok (.iconst 0, 1) := by decide +kernel
theorem dMod_push_64 : decode uMod_push.2.1 64 = .ok (.iastore, 1) := by decide +kernel
theorem dMod_push_65 : decode uMod_push.2.1 65 = .ok (.aload_n 0, 1) := by decide +kernel
theorem dMod_push_66 : decode uMod_push.2.1 66 = .ok (.getfield 35, 3) := by decide +kernel
theorem dMod_push_69 : decode uMod_push.2.1 69 = .ok (.iload 6, 2) := by decide +kernel
theorem dMod_push_71 : decode uMod_push.2.1 71 = .ok (.lconst 0, 1) := by decide +kernel
theorem dMod_push_72 : decode uMod_push.2.1 72 = .ok (.lastore, 1) := by decide +kernel
theorem dMod_push_73 : decode uMod_push.2.1 73 = .ok (.aload_n 0, 1) := by decide +kernel
theorem dMod_push_74 : decode uMod_push.2.1 74 = .ok (.getfield 16, 3) := by decide +kernel
theorem dMod_push_77 : decode uMod_push.2.1 77 = .ok (.iload_n 1, 1) := by decide +kernel
theorem dMod_push_78 : decode uMod_push.2.1 78 = .ok (.aload_n 0, 1) := by decide +kernel
theorem dMod_push_79 : decode uMod_push.2.1 79 = .ok (.getfield 16, 3) := by decide +kernel
theorem dMod_push_82 : decode uMod_push.2.1 82 = .ok (.iload_n 1, 1) := by decide +kernel
theorem dMod_push_83 : decode uMod_push.2.1 83 = .ok (.iaload, 1) := by decide +kernel
theorem dMod_push_84 : decode uMod_push.2.1 84 = .ok (.iconst 1, 1) := by decide +kernel
theorem dMod_push_85 : decode uMod_push.2.1 85 = .ok (.iadd, 1) := by decide +kernel
theorem dMod_push_86 : decode uMod_push.2.1 86 = .ok (.iastore, 1) := by decide +kernel
theorem dMod_push_87 : decode uMod_push.2.1 87 = .ok (.iload 6, 2) := by decide +kernel
theorem dMod_push_89 : decode uMod_push.2.1 89 = .ok (.ireturn, 1) := by decide +kernel
theorem dMod_full_0 : decode uMod_full.2.1 0 = .ok (.aload_n 0, 1) := by decide +kernel
theorem dMod_full_1 : decode uMod_full.2.1 1 = .ok (.getfield 16, 3) := by decide +kernel
theorem dMod_full_4 : decode uMod_full.2.1 4 = .ok (.iconst 1, 1) := by decide +kernel
theorem dMod_full_5 : decode uMod_full.2.1 5 = .ok (.iload_n 1, 1) := by decide +kernel
theorem dMod_full_6 : decode uMod_full.2.1 6 = .ok (.isub, 1) := by decide +kernel
theorem dMod_full_7 : decode uMod_full.2.1 7 = .ok (.iaload, 1) := by decide +kernel
theorem dMod_full_8 : decode uMod_full.2.1 8 = .ok (.bipush 30, 2) := by decide +kernel
theorem dMod_full_10 : decode uMod_full.2.1 10 = .ok (.if_icmp .lt 7, 3) := by decide +kernel
theorem dMod_full_13 : decode uMod_full.2.1 13 = .ok (.iconst 1, 1) := by decide +kernel
theorem dMod_full_14 : decode uMod_full.2.1 14 = .ok (.goto 4, 3) := by decide +kernel
theorem dMod_full_17 : decode uMod_full.2.1 17 = .ok (.iconst 0, 1) := by decide +kernel
theorem dMod_full_18 : decode uMod_full.2.1 18 = .ok (.ireturn, 1) := by decide +kernel
theorem dMod_sizeOf_0 : decode uMod_sizeOf.2.1 0 = .ok (.iload_n 0, 1) := by decide +kernel
theorem dMod_sizeOf_1 : decode uMod_sizeOf.2.1 1 = .ok (.ifCond .lt 9, 3) := by decide +kernel
theorem dMod_sizeOf_4 : decode uMod_sizeOf.2.1 4 = .ok (.iload_n 0, 1) := by decide +kernel
theorem dMod_sizeOf_5 : decode uMod_sizeOf.2.1 5 = .ok (.ldc 205, 2) := by decide +kernel
theorem dMod_sizeOf_7 : decode uMod_sizeOf.2.1 7 = .ok (.if_icmp .le 8, 3) := by decide +kernel
theorem dMod_sizeOf_10 : decode uMod_sizeOf.2.1 10 = .ok (.bipush 37, 2) := by decide +kernel
theorem dMod_sizeOf_12 : decode uMod_sizeOf.2.1 12 = .ok (.goto 28, 3) := by decide +kernel
theorem dMod_sizeOf_15 : decode uMod_sizeOf.2.1 15 = .ok (.iload_n 0, 1) := by decide +kernel
theorem dMod_sizeOf_16 : decode uMod_sizeOf.2.1 16 = .ok (.ldc 206, 2) := by decide +kernel
theorem dMod_sizeOf_18 : decode uMod_sizeOf.2.1 18 = .ok (.if_icmp .le 8, 3) := by decide +kernel
theorem dMod_sizeOf_21 : decode uMod_sizeOf.2.1 21 = .ok (.bipush 36, 2) := by decide +kernel
theorem dMod_sizeOf_23 : decode uMod_sizeOf.2.1 23 = .ok (.goto 17, 3) := by decide +kernel
theorem dMod_sizeOf_26 : decode uMod_sizeOf.2.1 26 = .ok (.iload_n 0, 1) := by decide +kernel
theorem dMod_sizeOf_27 : decode uMod_sizeOf.2.1 27 = .ok (.sipush 255, 3) := by decide +kernel
theorem dMod_sizeOf_30 : decode uMod_sizeOf.2.1 30 = .ok (.if_icmp .le 8, 3) := by decide +kernel
theorem dMod_sizeOf_33 : decode uMod_sizeOf.2.1 33 = .ok (.bipush 35, 2) := by decide +kernel
theorem dMod_sizeOf_35 : decode uMod_sizeOf.2.1 35 = .ok (.goto 5, 3) := by decide +kernel
theorem dMod_sizeOf_38 : decode uMod_sizeOf.2.1 38 = .ok (.bipush 34, 2) := by decide +kernel
theorem dMod_sizeOf_40 : decode uMod_sizeOf.2.1 40 = .ok (.ireturn, 1) := by decide +kernel
theorem cs_Mod_171 : cSt "InterleavedLinkModel" 171 uMod_isEnd 1 := ⟨⟨Or.inl (gW_in 1035 (by decide +kernel) rfl), (gW_in 74 (by decide +kernel) rfl), (gW_in 1037 (by decide +kernel) rfl), ⟨by decide, by decide⟩, by decide +kernel⟩, (gW_in 1036 (by decide +kernel) rfl)⟩
theorem fs_Mod_7 : fS "InterleavedLinkModel" 7 10 0 := ⟨"InterleavedLinkModel", T_Mod, 56, cf_Mod, by decide, Or.inl (gW_in 861 (by decide +kernel) rfl)⟩
theorem fs_Mod_51 : fS "InterleavedLinkModel" 51 10 13 := ⟨"InterleavedLinkModel", T_Mod, 56, cf_Mod, by decide, Or.inl (gW_in 874 (by decide +kernel) rfl)⟩
theorem fs_Mod_54 : fS "InterleavedLinkModel" 54 10 14 := ⟨"InterleavedLinkModel", T_Mod, 56, cf_Mod, by decide, Or.inl (gW_in 875 (by decide +kernel) rfl)⟩
theorem fs_Mod_57 : fS "InterleavedLinkModel" 57 10 15 := ⟨"InterleavedLinkModel", T_Mod, 56, cf_Mod, by decide, Or.inl (gW_in 876 (by decide +kernel) rfl)⟩
theorem fs_Mod_60 : fS "InterleavedLinkModel" 60 10 16 := ⟨"InterleavedLinkModel", T_Mod, 56, cf_Mod, by decide, Or.inl (gW_in 877 (by decide +kernel) rfl)⟩
theorem cs_Mod_175 : cV "InterleavedLinkModel" 175 uMod_stateAt 1 := ⟨⟨Or.inl (gW_in 1133 (by decide +kernel) rfl), (gW_in 74 (by decide +kernel) rfl), (gW_in 1136 (by decide +kernel) rfl), ⟨by decide, by decide⟩, by decide +kernel⟩, (gW_in 1135 (by decide +kernel) rfl), (gW_in 47 (by decide +kernel) rfl)⟩
theorem cs_Mod_179 : cV "InterleavedLinkModel" 179 uMod_active 1 := ⟨⟨Or.inl (gW_in 1129 (by decide +kernel) rfl), (gW_in 74 (by decide +kernel) rfl), (gW_in 1132 (by decide +kernel) rfl), ⟨by decide, by decide⟩, by decide +kernel⟩, (gW_in 1131 (by decide +kernel) rfl), (gW_in 46 (by decide +kernel) rfl)⟩
theorem fs_Mod_75 : fS "InterleavedLinkModel" 75 10 21 := ⟨"InterleavedLinkModel", T_Mod, 56, cf_Mod, by decide, Or.inl (gW_in 882 (by decide +kernel) rfl)⟩
theorem fs_Mod_72 : fS "InterleavedLinkModel" 72 10 20 := ⟨"InterleavedLinkModel", T_Mod, 56, cf_Mod, by decide, Or.inl (gW_in 881 (by decide +kernel) rfl)⟩
theorem fs_Mod_81 : fS "InterleavedLinkModel" 81 10 23 := ⟨"InterleavedLinkModel", T_Mod, 56, cf_Mod, by decide, Or.inl (gW_in 884 (by decide +kernel) rfl)⟩
theorem fs_Mod_78 : fS "InterleavedLinkModel" 78 10 22 := ⟨"InterleavedLinkModel", T_Mod, 56, cf_Mod, by decide, Or.inl (gW_in 883 (by decide +kernel) rfl)⟩
theorem fs_Mod_111 : fS "InterleavedLinkModel" 111 10 33 := ⟨"InterleavedLinkModel", T_Mod, 56, cf_Mod, by decide, Or.inl (gW_in 894 (by decide +kernel) rfl)⟩
theorem fs_Mod_108 : fS "InterleavedLinkModel" 108 10 32 := ⟨"InterleavedLinkModel", T_Mod, 56, cf_Mod, by decide, Or.inl (gW_in 893 (by decide +kernel) rfl)⟩
theorem fs_Mod_99 : fS "InterleavedLinkModel" 99 10 29 := ⟨"InterleavedLinkModel", T_Mod, 56, cf_Mod, by decide, Or.inl (gW_in 890 (by decide +kernel) rfl)⟩
theorem fs_Mod_13 : fS "InterleavedLinkModel" 13 10 1 := ⟨"InterleavedLinkModel", T_Mod, 56, cf_Mod, by decide, Or.inl (gW_in 862 (by decide +kernel) rfl)⟩
theorem fs_Mod_16 : fS "InterleavedLinkModel" 16 10 2 := ⟨"InterleavedLinkModel", T_Mod, 56, cf_Mod, by decide, Or.inl (gW_in 863 (by decide +kernel) rfl)⟩
theorem fs_Mod_19 : fS "InterleavedLinkModel" 19 10 3 := ⟨"InterleavedLinkModel", T_Mod, 56, cf_Mod, by decide, Or.inl (gW_in 864 (by decide +kernel) rfl)⟩
theorem fs_Mod_22 : fS "InterleavedLinkModel" 22 10 4 := ⟨"InterleavedLinkModel", T_Mod, 56, cf_Mod, by decide, Or.inl (gW_in 865 (by decide +kernel) rfl)⟩
theorem fs_Mod_25 : fS "InterleavedLinkModel" 25 10 5 := ⟨"InterleavedLinkModel", T_Mod, 56, cf_Mod, by decide, Or.inl (gW_in 866 (by decide +kernel) rfl)⟩
theorem fs_Mod_28 : fS "InterleavedLinkModel" 28 10 6 := ⟨"InterleavedLinkModel", T_Mod, 56, cf_Mod, by decide, Or.inl (gW_in 867 (by decide +kernel) rfl)⟩
theorem fs_Mod_32 : fS "InterleavedLinkModel" 32 10 7 := ⟨"InterleavedLinkModel", T_Mod, 56, cf_Mod, by decide, Or.inl (gW_in 868 (by decide +kernel) rfl)⟩
theorem fs_Mod_35 : fS "InterleavedLinkModel" 35 10 8 := ⟨"InterleavedLinkModel", T_Mod, 56, cf_Mod, by decide, Or.inl (gW_in 869 (by decide +kernel) rfl)⟩
theorem lc_Mod_205 : Cond.constant "InterleavedLinkModel" 205 16777215 ∈ gW := gW_in 1103 (by decide +kernel) rfl
theorem lc_Mod_206 : Cond.constant "InterleavedLinkModel" 206 65535 ∈ gW := gW_in 1104 (by decide +kernel) rfl
/-! ===== the reference: small reads ===== -/
abbrev Rdowns (M : mM) (i : Nat) : Int32 := mI M 170 i
abbrev Rhead (M : mM) (i : Nat) : Int32 := mI M 171 i
abbrev Rcount (M : mM) (i : Nat) : Int32 := mI M 172 i
abbrev Rkinds (M : mM) (i : Nat) : Int32 := mI M 173 i
abbrev Rstreams (M : mM) (i : Nat) : Int32 := mI M 174 i
abbrev Ramounts (M : mM) (i : Nat) : Int32 := mI M 175 i
abbrev Rflags (M : mM) (i : Nat) : Int32 := mI M 176 i
abbrev Rsettings (M : mM) (i : Nat) : Int32 := mI M 177 i
abbrev Rloads (M : mM) (i : Nat) : Int64 := mL M 178 i
abbrev RstepKind (M : mM) (i : Nat) : Int32 := mI M 179 i
abbrev RstepIndex (M : mM) (i : Nat) : Int32 := mI M 180 i
abbrev RstepName (M : mM) (i : Nat) : Int32 := mI M 181 i
abbrev RstepValue (M : mM) (i : Nat) : Int32 := mI M 182 i
abbrev Ropened (M : mM) (i : Nat) : Int32 := mI M 183 i
abbrev Rcut (M : mM) (i : Nat) : Int32 := mI M 184 i
abbrev RsentEnd (M : mM) (i : Nat) : Int32 := mI M 185 i
abbrev RgotEnd (M : mM) (i : Nat) : Int32 := mI M 186 i
abbrev Rcame (M : mM) (i : Nat) : Int32 := mI M 187 i
abbrev Rresponded (M : mM) (i : Nat) : Int32 := mI M 188 i
abbrev RlastSaid (M : mM) (i : Nat) : Int32 := mI M 189 i
abbrev Rsent (M : mM) (i : Nat) : Int32 := mI M 190 i
abbrev Rcredit (M : mM) (i : Nat) : Int32 := mI M 191 i
abbrev Rgot (M : mM) (i : Nat) : Int32 := mI M 192 i
abbrev Rback (M : mM) (i : Nat) : Int32 := mI M 193 i
abbrev Rfields (M : mM) (i : Nat) : Int32 := mI M 194 i
abbrev RfieldName (M : mM) (i : Nat) : Int32 := mI M 195 i
abbrev RfieldValue (M : mM) (i : Nat) : Int32 := mI M 196 i
abbrev Rwaits (M : mM) (i : Nat) : Int32 := mI M 197 i
abbrev Rwait (M : mM) (i : Nat) : Int32 := mI M 198 i
abbrev Runread (M : mM) (i : Nat) : Int32 := mI M 199 i
abbrev RunreadStream (M : mM) (i : Nat) : Int32 := mI M 200 i
abbrev RunreadByte (M : mM) (i : Nat) : Int32 := mI M 201 i
abbrev RlinkSent (M : mM) (i : Nat) : Int32 := mI M 202 i
abbrev RlinkCredit (M : mM) (i : Nat) : Int32 := mI M 203 i
abbrev RlastData (M : mM) (i : Nat) : Int32 := mI M 204 i
abbrev Rforce (M : mM) (i : Nat) : Int32 := mI M 205 i
abbrev Rtold (M : mM) (i : Nat) : Int32 := mI M 206 i
abbrev RtoldSince (M : mM) (i : Nat) : Int32 := mI M 207 i
abbrev RleastTold (M : mM) (i : Nat) : Int32 := mI M 208 i
abbrev Rneed (M : mM) (i : Nat) : Int32 := mI M 209 i
abbrev Ropen (M : mM) (i : Nat) : Int32 := mI M 210 i
abbrev RopenSetting (M : mM) (i : Nat) : Int32 := mI M 211 i
abbrev RopenValue (M : mM) (i : Nat) : Int32 := mI M 212 i
abbrev Rmaximum (M : mM) (i : Nat) : Int32 := mI M 213 i
abbrev Rsize (M : mM) (i : Nat) : Int32 := mI M 214 i
abbrev RtableName (M : mM) (i : Nat) : Int32 := mI M 215 i
abbrev RtableValue (M : mM) (i : Nat) : Int32 := mI M 216 i
abbrev Rmaking (M : mM) (i : Nat) : Int32 := mI M 217 i
abbrev RmakingName (M : mM) (i : Nat) : Int32 := mI M 218 i
abbrev RmakingValue (M : mM) (i : Nat) : Int32 := mI M 219 i
abbrev RmakingSecret (M : mM) (i : Nat) : Int32 := mI M 220 i
abbrev RlistName (M : mM) (i : Nat) : Int32 := mI M 221 i
abbrev RlistValue (M : mM) (i : Nat) : Int32 := mI M 222 i
abbrev Rrequests (M : mM) : Int32 := mI M 169 35
abbrev Rlisted (M : mM) : Int32 := mI M 169 52
abbrev Rtaken (M : mM) : Int64 := mL M 169 55
def isEndZ (x : Int32) : Int32 := if x = 0 then 1 else if x = 1 then 1 else 0
def isStrZ (x : Int32) : Int32 := if x < 1 then 0 else if 23 < x then 0 else if x &&& 1 = 1 then 1 else 0
def stA (M : mM) (i : Nat) : Int32 := if Ropened M i = 0 then 0 else if ¬ Rcut M i = 0 then 4 else if ¬ RsentEnd M i = 0 ∧ ¬ RgotEnd M i = 0 then 4 else if ¬ RsentEnd M i = 0 then 2 else if ¬ RgotEnd M i = 0 then 3 else 1
def acA (M : mM) (i : Nat) : Int32 := if stA M i < 1 then 0 else if 3 < stA M i then 0 else 1
theorem acA_z (M : mM) (i : Nat) : acA M i = 0 ∨ acA M i = 1 := by unfold acA; split; exact Or.inl rfl; split; exact Or.inl rfl; exact Or.inr rfl
/-- how many of the first k streams of end e are active -/
def cntA (M : mM) (e : Nat) : Nat → Nat
  | 0 => 0
  | k + 1 => if acA M (12 * e + k) = 0 then cntA M e k else cntA M e k + 1
theorem cntA_le (M : mM) (e : Nat) : ∀ k, cntA M e k ≤ k
  | 0 => Nat.le_refl _
  | k + 1 => by have := cntA_le M e k; unfold cntA; split <;> omega
def sizeZ (v : Int32) : Int32 := if v < 0 then 37 else if ¬ v ≤ 16777215 then 37 else if ¬ v ≤ 65535 then 36 else if ¬ v ≤ 255 then 35 else 34
set_option maxRecDepth 100000 in
set_option maxHeartbeats 4000000 in
theorem ct_Mod_isEnd {X : mX} {l : Launch} {M : mM} {x : Int32} : Ct X l uMod_isEnd (rk 0 0) [.int x] M (fun r M' => r = some (.int (isEndZ x)) ∧ M' = M) := by
  refine Ct.of (by decide) (Nat.le_of_ble_eq_true rfl) ?_
  show G X l uMod_isEnd (rk 0 0) 0 0 M 0 [some (.int x)] [] _
  refine g_iload_n 0 dMod_isEnd_0 rfl ?_
  refine g_if_eq 1 9 dMod_isEnd_1 rfl (fun h1 => ?_) (fun h1 => ?_)
  · refine g_iconst 9 1 dMod_isEnd_9 rfl ?_
    refine g_goto 10 14 dMod_isEnd_10 rfl ?_
    exact g_zret 14 dMod_isEnd_14 rfl (by decide) ⟨by first | (simp only [isEndZ, *, if_true, if_false, not_true_eq_false, not_false_eq_true, and_true, true_and, and_false, false_and, and_self, reduceIte]; done) | (simp_all [isEndZ]; done), rfl⟩
  · refine g_iload_n 4 dMod_isEnd_4 rfl ?_
    refine g_iconst 5 1 dMod_isEnd_5 rfl ?_
    refine g_icmp_ne 6 13 dMod_isEnd_6 rfl (fun h6 => ?_) (fun h6 => ?_)
    · refine g_iconst 13 0 dMod_isEnd_13 rfl ?_
      exact g_zret 14 dMod_isEnd_14 rfl (by decide) ⟨by first | (simp only [isEndZ, *, if_true, if_false, not_true_eq_false, not_false_eq_true, and_true, true_and, and_false, false_and, and_self, reduceIte]; done) | (simp_all [isEndZ]; done), rfl⟩
    · refine g_iconst 9 1 dMod_isEnd_9 rfl ?_
      refine g_goto 10 14 dMod_isEnd_10 rfl ?_
      exact g_zret 14 dMod_isEnd_14 rfl (by decide) ⟨by first | (simp only [isEndZ, *, if_true, if_false, not_true_eq_false, not_false_eq_true, and_true, true_and, and_false, false_and, and_self, reduceIte]; done) | (simp_all [isEndZ]; done), rfl⟩

set_option maxRecDepth 100000 in
set_option maxHeartbeats 4000000 in
theorem ct_Mod_isStream {X : mX} {l : Launch} {M : mM} {x : Int32} : Ct X l uMod_isStream (rk 0 0) [.int x] M (fun r M' => r = some (.int (isStrZ x)) ∧ M' = M) := by
  refine Ct.of (by decide) (Nat.le_of_ble_eq_true rfl) ?_
  show G X l uMod_isStream (rk 0 0) 0 0 M 0 [some (.int x)] [] _
  refine g_iload_n 0 dMod_isStream_0 rfl ?_
  refine g_iconst 1 1 dMod_isStream_1 rfl ?_
  refine g_icmp_lt 2 22 dMod_isStream_2 rfl (fun h2 => ?_) (fun h2 => ?_)
  · refine g_iconst 22 0 dMod_isStream_22 rfl ?_
    exact g_zret 23 dMod_isStream_23 rfl (by decide) ⟨by first | (simp only [isStrZ, *, if_true, if_false, not_true_eq_false, not_false_eq_true, and_true, true_and, and_false, false_and, and_self, reduceIte]; done) | (simp_all [isStrZ]; done), rfl⟩
  · refine g_iload_n 5 dMod_isStream_5 rfl ?_
    refine g_bipush 6 23 dMod_isStream_6 rfl ?_
    refine g_icmp_gt 8 22 dMod_isStream_8 rfl (fun h8 => ?_) (fun h8 => ?_)
    · refine g_iconst 22 0 dMod_isStream_22 rfl ?_
      exact g_zret 23 dMod_isStream_23 rfl (by decide) ⟨by first | (simp only [isStrZ, *, if_true, if_false, not_true_eq_false, not_false_eq_true, and_true, true_and, and_false, false_and, and_self, reduceIte]; done) | (simp_all [isStrZ]; done), rfl⟩
    · refine g_iload_n 11 dMod_isStream_11 rfl ?_
      refine g_iconst 12 1 dMod_isStream_12 rfl ?_
      refine g_iand 13 dMod_isStream_13 ?_
      refine g_iconst 14 1 dMod_isStream_14 rfl ?_
      refine g_icmp_ne 15 22 dMod_isStream_15 rfl (fun h15 => ?_) (fun h15 => ?_)
      · refine g_iconst 22 0 dMod_isStream_22 rfl ?_
        exact g_zret 23 dMod_isStream_23 rfl (by decide) ⟨by first | (simp only [isStrZ, *, if_true, if_false, not_true_eq_false, not_false_eq_true, and_true, true_and, and_false, false_and, and_self, reduceIte]; done) | (simp_all [isStrZ]; done), rfl⟩
      · refine g_iconst 18 1 dMod_isStream_18 rfl ?_
        refine g_goto 19 23 dMod_isStream_19 rfl ?_
        exact g_zret 23 dMod_isStream_23 rfl (by decide) ⟨by first | (simp only [isStrZ, *, if_true, if_false, not_true_eq_false, not_false_eq_true, and_true, true_and, and_false, false_and, and_self, reduceIte]; done) | (simp_all [isStrZ]; done), rfl⟩

set_option maxRecDepth 100000 in
set_option maxHeartbeats 4000000 in
theorem ct_Mod_at {X : mX} {l : Launch} {M : mM} {e s : Nat} (he : e < 2) (hs : s < 24) : Ct X l uMod_at (rk 0 0) [.int (nI e), .int (nI s)] M (fun r M' => r = some (.int (nI (12 * e + s / 2))) ∧ M' = M) := by
  refine Ct.of (by decide) (Nat.le_of_ble_eq_true rfl) ?_
  show G X l uMod_at (rk 0 0) 0 0 M 0 [some (.int (nI e)), some (.int (nI s))] [] _
  refine g_bipush 0 (nI 12) dMod_at_0 rfl ?_
  refine g_iload_n 2 dMod_at_2 rfl ?_
  refine g_imulN 3 dMod_at_3 ?_
  refine g_iload_n 4 dMod_at_4 rfl ?_
  refine g_iconst 5 (nI 2) dMod_at_5 rfl ?_
  refine g_idivN 6 dMod_at_6 (by omega) (by decide) (by decide) ?_
  refine g_iaddN 7 dMod_at_7 ?_
  exact g_iret 8 dMod_at_8 rfl ⟨rfl, rfl⟩

set_option maxRecDepth 100000 in
set_option maxHeartbeats 4000000 in
theorem ct_Mod_up {X : mX} {l : Launch} {M : mM} {e : Nat} (hS : Shp M) (he : e < 2) : Ct X l uMod_up (rk 1 20) [.ref 169, .int (nI e)] M (fun r M' => r = some (.int (if Rdowns M e = 0 then 1 else 0)) ∧ M' = M) := by
  refine Ct.of (by decide) (Nat.le_of_ble_eq_true rfl) ?_
  show G X l uMod_up (rk 1 20) 0 0 M 0 [some (.ref 169), some (.int (nI e))] [] _
  refine g_iload_n 0 dMod_up_0 rfl ?_
  refine g_callS 1 [_] dMod_up_1 cs_Mod_171 rfl rfl ⟨(Nat.le_of_ble_eq_true rfl), (Nat.le_of_ble_eq_true rfl)⟩ (Nat.le_of_ble_eq_true rfl) (ct_Mod_isEnd) (Nat.le_of_ble_eq_true rfl) (Nat.le_of_ble_eq_true rfl) ?_
  rintro _ M2 ⟨rfl, hM2⟩
  rw [hM2]
  clear hM2 M2
  refine g_if_eq 4 20 dMod_up_4 rfl (fun h4 => ?_) (fun h4 => ?_)
  · exact absurd h4 (by rcases (by omega : e = 0 ∨ e = 1) with rfl | rfl <;> decide)
  · refine g_aload_n 7 dMod_up_7 rfl ?_
    refine g_getr 8 10 0 dMod_up_8 fs_Mod_7 rfl hS.mod hS.R_downs ?_
    refine g_iload_n 11 dMod_up_11 rfl ?_
    refine g_ialdN 12 dMod_up_12 hS.T_downs (by omega) (by decide) ?_
    refine g_if_ne 13 20 dMod_up_13 rfl (fun h13 => ?_) (fun h13 => ?_)
    · refine g_iconst 20 0 dMod_up_20 rfl ?_
      exact g_zret 21 dMod_up_21 rfl (by decide) ⟨by first | (simp only [*, if_true, if_false, not_true_eq_false, not_false_eq_true, and_true, true_and, and_false, false_and, and_self, reduceIte]; done) | (simp_all []; done), rfl⟩
    · refine g_iconst 16 1 dMod_up_16 rfl ?_
      refine g_goto 17 21 dMod_up_17 rfl ?_
      exact g_zret 21 dMod_up_21 rfl (by decide) ⟨by first | (simp only [*, if_true, if_false, not_true_eq_false, not_false_eq_true, and_true, true_and, and_false, false_and, and_self, reduceIte]; done) | (simp_all []; done), rfl⟩

set_option maxRecDepth 100000 in
set_option maxHeartbeats 4000000 in
theorem ct_Mod_up_no {X : mX} {l : Launch} {M : mM} {x : Int32} (h0 : ¬ x = 0) (h1 : ¬ x = 1) : Ct X l uMod_up (rk 1 20) [.ref 169, .int x] M (fun r M' => r = some (.int 0) ∧ M' = M) := by
  refine Ct.of (by decide) (Nat.le_of_ble_eq_true rfl) ?_
  show G X l uMod_up (rk 1 20) 0 0 M 0 [some (.ref 169), some (.int x)] [] _
  refine g_iload_n 0 dMod_up_0 rfl ?_
  refine g_callS 1 [_] dMod_up_1 cs_Mod_171 rfl rfl ⟨(Nat.le_of_ble_eq_true rfl), (Nat.le_of_ble_eq_true rfl)⟩ (Nat.le_of_ble_eq_true rfl) (ct_Mod_isEnd) (Nat.le_of_ble_eq_true rfl) (Nat.le_of_ble_eq_true rfl) ?_
  rintro _ M2 ⟨rfl, hM2⟩
  rw [hM2]
  clear hM2 M2
  refine g_if_eq 4 20 dMod_up_4 rfl (fun h4 => ?_) (fun h4 => ?_)
  · refine g_iconst 20 0 dMod_up_20 rfl ?_
    exact g_zret 21 dMod_up_21 rfl (by decide) ⟨rfl, rfl⟩
  · exact absurd (by simp [isEndZ, h0, h1]) h4

set_option maxRecDepth 100000 in
set_option maxHeartbeats 4000000 in
theorem ct_Mod_stateAt {X : mX} {l : Launch} {M : mM} {i : Nat} (hS : Shp M) (hi : i < 24) : Ct X l uMod_stateAt (rk 0 0) [.ref 169, .int (nI i)] M (fun r M' => r = some (.int (stA M i)) ∧ M' = M) := by
  refine Ct.of (by decide) (Nat.le_of_ble_eq_true rfl) ?_
  show G X l uMod_stateAt (rk 0 0) 0 0 M 0 [some (.ref 169), some (.int (nI i))] [] _
  refine g_aload_n 0 dMod_stateAt_0 rfl ?_
  refine g_getr 1 10 13 dMod_stateAt_1 fs_Mod_51 rfl hS.mod hS.R_opened ?_
  refine g_iload_n 4 dMod_stateAt_4 rfl ?_
  refine g_zaldN 5 dMod_stateAt_5 hS.T_opened (by omega) (by decide) ?_
  refine g_if_ne 6 11 dMod_stateAt_6 rfl (fun h6 => ?_) (fun h6 => ?_)
  · refine g_aload_n 11 dMod_stateAt_11 rfl ?_
    refine g_getr 12 10 14 dMod_stateAt_12 fs_Mod_54 rfl hS.mod hS.R_cut ?_
    refine g_iload_n 15 dMod_stateAt_15 rfl ?_
    refine g_zaldN 16 dMod_stateAt_16 hS.T_cut (by omega) (by decide) ?_
    refine g_if_ne 17 38 dMod_stateAt_17 rfl (fun h17 => ?_) (fun h17 => ?_)
    · refine g_iconst 38 4 dMod_stateAt_38 rfl ?_
      exact g_iret 39 dMod_stateAt_39 rfl ⟨by first | (simp only [stA, *, if_true, if_false, not_true_eq_false, not_false_eq_true, and_true, true_and, and_false, false_and, and_self, reduceIte]; done) | (simp_all [stA]; done), rfl⟩
    · refine g_aload_n 20 dMod_stateAt_20 rfl ?_
      refine g_getr 21 10 15 dMod_stateAt_21 fs_Mod_57 rfl hS.mod hS.R_sentEnd ?_
      refine g_iload_n 24 dMod_stateAt_24 rfl ?_
      refine g_zaldN 25 dMod_stateAt_25 hS.T_sentEnd (by omega) (by decide) ?_
      refine g_if_eq 26 40 dMod_stateAt_26 rfl (fun h26 => ?_) (fun h26 => ?_)
      · refine g_aload_n 40 dMod_stateAt_40 rfl ?_
        refine g_getr 41 10 15 dMod_stateAt_41 fs_Mod_57 rfl hS.mod hS.R_sentEnd ?_
        refine g_iload_n 44 dMod_stateAt_44 rfl ?_
        refine g_zaldN 45 dMod_stateAt_45 hS.T_sentEnd (by omega) (by decide) ?_
        refine g_if_eq 46 53 dMod_stateAt_46 rfl (fun h46 => ?_) (fun h46 => ?_)
        · refine g_aload_n 53 dMod_stateAt_53 rfl ?_
          refine g_getr 54 10 16 dMod_stateAt_54 fs_Mod_60 rfl hS.mod hS.R_gotEnd ?_
          refine g_iload_n 57 dMod_stateAt_57 rfl ?_
          refine g_zaldN 58 dMod_stateAt_58 hS.T_gotEnd (by omega) (by decide) ?_
          refine g_if_eq 59 66 dMod_stateAt_59 rfl (fun h59 => ?_) (fun h59 => ?_)
          · refine g_iconst 66 1 dMod_stateAt_66 rfl ?_
            exact g_iret 67 dMod_stateAt_67 rfl ⟨by first | (simp only [stA, *, if_true, if_false, not_true_eq_false, not_false_eq_true, and_true, true_and, and_false, false_and, and_self, reduceIte]; done) | (simp_all [stA]; done), rfl⟩
          · refine g_iconst 62 3 dMod_stateAt_62 rfl ?_
            refine g_goto 63 67 dMod_stateAt_63 rfl ?_
            exact g_iret 67 dMod_stateAt_67 rfl ⟨by first | (simp only [stA, *, if_true, if_false, not_true_eq_false, not_false_eq_true, and_true, true_and, and_false, false_and, and_self, reduceIte]; done) | (simp_all [stA]; done), rfl⟩
        · refine g_iconst 49 2 dMod_stateAt_49 rfl ?_
          refine g_goto 50 67 dMod_stateAt_50 rfl ?_
          exact g_iret 67 dMod_stateAt_67 rfl ⟨by first | (simp only [stA, *, if_true, if_false, not_true_eq_false, not_false_eq_true, and_true, true_and, and_false, false_and, and_self, reduceIte]; done) | (simp_all [stA]; done), rfl⟩
      · refine g_aload_n 29 dMod_stateAt_29 rfl ?_
        refine g_getr 30 10 16 dMod_stateAt_30 fs_Mod_60 rfl hS.mod hS.R_gotEnd ?_
        refine g_iload_n 33 dMod_stateAt_33 rfl ?_
        refine g_zaldN 34 dMod_stateAt_34 hS.T_gotEnd (by omega) (by decide) ?_
        refine g_if_eq 35 40 dMod_stateAt_35 rfl (fun h35 => ?_) (fun h35 => ?_)
        · refine g_aload_n 40 dMod_stateAt_40 rfl ?_
          refine g_getr 41 10 15 dMod_stateAt_41 fs_Mod_57 rfl hS.mod hS.R_sentEnd ?_
          refine g_iload_n 44 dMod_stateAt_44 rfl ?_
          refine g_zaldN 45 dMod_stateAt_45 hS.T_sentEnd (by omega) (by decide) ?_
          refine g_if_eq 46 53 dMod_stateAt_46 rfl (fun h46 => ?_) (fun h46 => ?_)
          · refine g_aload_n 53 dMod_stateAt_53 rfl ?_
            refine g_getr 54 10 16 dMod_stateAt_54 fs_Mod_60 rfl hS.mod hS.R_gotEnd ?_
            refine g_iload_n 57 dMod_stateAt_57 rfl ?_
            refine g_zaldN 58 dMod_stateAt_58 hS.T_gotEnd (by omega) (by decide) ?_
            refine g_if_eq 59 66 dMod_stateAt_59 rfl (fun h59 => ?_) (fun h59 => ?_)
            · refine g_iconst 66 1 dMod_stateAt_66 rfl ?_
              exact g_iret 67 dMod_stateAt_67 rfl ⟨by first | (simp only [stA, *, if_true, if_false, not_true_eq_false, not_false_eq_true, and_true, true_and, and_false, false_and, and_self, reduceIte]; done) | (simp_all [stA]; done), rfl⟩
            · refine g_iconst 62 3 dMod_stateAt_62 rfl ?_
              refine g_goto 63 67 dMod_stateAt_63 rfl ?_
              exact g_iret 67 dMod_stateAt_67 rfl ⟨by first | (simp only [stA, *, if_true, if_false, not_true_eq_false, not_false_eq_true, and_true, true_and, and_false, false_and, and_self, reduceIte]; done) | (simp_all [stA]; done), rfl⟩
          · refine g_iconst 49 2 dMod_stateAt_49 rfl ?_
            refine g_goto 50 67 dMod_stateAt_50 rfl ?_
            exact g_iret 67 dMod_stateAt_67 rfl ⟨by first | (simp only [stA, *, if_true, if_false, not_true_eq_false, not_false_eq_true, and_true, true_and, and_false, false_and, and_self, reduceIte]; done) | (simp_all [stA]; done), rfl⟩
        · refine g_iconst 38 4 dMod_stateAt_38 rfl ?_
          exact g_iret 39 dMod_stateAt_39 rfl ⟨by first | (simp only [stA, *, if_true, if_false, not_true_eq_false, not_false_eq_true, and_true, true_and, and_false, false_and, and_self, reduceIte]; done) | (simp_all [stA]; done), rfl⟩
  · refine g_iconst 9 0 dMod_stateAt_9 rfl ?_
    exact g_iret 10 dMod_stateAt_10 rfl ⟨by first | (simp only [stA, *, if_true, if_false, not_true_eq_false, not_false_eq_true, and_true, true_and, and_false, false_and, and_self, reduceIte]; done) | (simp_all [stA]; done), rfl⟩

set_option maxRecDepth 100000 in
set_option maxHeartbeats 4000000 in
theorem ct_Mod_active {X : mX} {l : Launch} {M : mM} {i : Nat} (hS : Shp M) (hi : i < 24) : Ct X l uMod_active (rk 1 21) [.ref 169, .int (nI i)] M (fun r M' => r = some (.int (acA M i)) ∧ M' = M) := by
  refine Ct.of (by decide) (Nat.le_of_ble_eq_true rfl) ?_
  show G X l uMod_active (rk 1 21) 0 0 M 0 [some (.ref 169), some (.int (nI i)), none] [] _
  refine g_aload_n 0 dMod_active_0 rfl ?_
  refine g_iload_n 1 dMod_active_1 rfl ?_
  refine g_callV 2 [_] dMod_active_2 cs_Mod_175 rfl (ci := 10) rfl (by decide) hS.mod rfl ⟨(Nat.le_of_ble_eq_true rfl), (Nat.le_of_ble_eq_true rfl)⟩ (Nat.le_of_ble_eq_true rfl) (ct_Mod_stateAt hS (by omega)) (Nat.le_of_ble_eq_true rfl) (Nat.le_of_ble_eq_true rfl) ?_
  rintro _ M2 ⟨rfl, hM2⟩
  rw [hM2]
  clear hM2 M2
  refine g_istore_n 5 dMod_active_5 (by decide) rfl ?_
  refine g_iload_n 6 dMod_active_6 rfl ?_
  refine g_iconst 7 1 dMod_active_7 rfl ?_
  refine g_icmp_lt 8 20 dMod_active_8 rfl (fun h8 => ?_) (fun h8 => ?_)
  · refine g_iconst 20 0 dMod_active_20 rfl ?_
    exact g_zret 21 dMod_active_21 rfl (by decide) ⟨by first | (simp only [acA, *, if_true, if_false, not_true_eq_false, not_false_eq_true, and_true, true_and, and_false, false_and, and_self, reduceIte]; done) | (simp_all [acA]; done), rfl⟩
  · refine g_iload_n 11 dMod_active_11 rfl ?_
    refine g_iconst 12 3 dMod_active_12 rfl ?_
    refine g_icmp_gt 13 20 dMod_active_13 rfl (fun h13 => ?_) (fun h13 => ?_)
    · refine g_iconst 20 0 dMod_active_20 rfl ?_
      exact g_zret 21 dMod_active_21 rfl (by decide) ⟨by first | (simp only [acA, *, if_true, if_false, not_true_eq_false, not_false_eq_true, and_true, true_and, and_false, false_and, and_self, reduceIte]; done) | (simp_all [acA]; done), rfl⟩
    · refine g_iconst 16 1 dMod_active_16 rfl ?_
      refine g_goto 17 21 dMod_active_17 rfl ?_
      exact g_zret 21 dMod_active_21 rfl (by decide) ⟨by first | (simp only [acA, *, if_true, if_false, not_true_eq_false, not_false_eq_true, and_true, true_and, and_false, false_and, and_self, reduceIte]; done) | (simp_all [acA]; done), rfl⟩

set_option maxRecDepth 100000 in
set_option maxHeartbeats 4000000 in
theorem g_activeAt {X : mX} {l : Launch} {M : mM} {e : Nat} {Q : Option Value → mM → Prop} (hS : Shp M) (he : e < 2) (hq : Q (some (.int (nI (cntA M e 12)))) M) : ∀ (j n : Nat), n + j = 12 → G X l uMod_activeAt (rk 2 43) 0 0 M 4 [some (.ref 169), some (.int (nI e)), some (.int (nI (cntA M e n))), some (.int (nI n))] [] Q
  | 0, n, hn => by
    have hn : n = 12 := by omega
    subst hn
    have hc := cntA_le M e 12
    refine g_iload_n 4 dMod_activeAt_4 rfl ?_
    refine g_bipush 5 (nI 12) dMod_activeAt_5 rfl ?_
    refine g_icmp_geN 7 37 dMod_activeAt_7 rfl (by omega) (by omega) (fun h7 => ?_) (fun h7 => ?_)
    · refine g_iload_n 37 dMod_activeAt_37 rfl ?_
      exact g_iret 38 dMod_activeAt_38 rfl hq
    · exact absurd (Nat.le_refl 12) h7
  | j + 1, n, hn => by
    have hc := cntA_le M e n
    have ih := g_activeAt (X := X) (l := l) hS he hq j (n + 1) (by omega)
    refine g_iload_n 4 dMod_activeAt_4 rfl ?_
    refine g_bipush 5 (nI 12) dMod_activeAt_5 rfl ?_
    refine g_icmp_geN 7 37 dMod_activeAt_7 rfl (by omega) (by omega) (fun h7 => ?_) (fun h7 => ?_)
    · exact absurd h7 (by omega)
    · refine g_aload_n 10 dMod_activeAt_10 rfl ?_
      refine g_bipush 11 (nI 12) dMod_activeAt_11 rfl ?_
      refine g_iload_n 13 dMod_activeAt_13 rfl ?_
      refine g_imulN 14 dMod_activeAt_14 ?_
      refine g_iload_n 15 dMod_activeAt_15 rfl ?_
      refine g_iaddN 16 dMod_activeAt_16 ?_
      refine g_callV 17 [_] dMod_activeAt_17 cs_Mod_179 rfl (ci := 10) rfl (by decide) hS.mod rfl ⟨(Nat.le_of_ble_eq_true rfl), (Nat.le_of_ble_eq_true rfl)⟩ (Nat.le_of_ble_eq_true rfl) (ct_Mod_active hS (by omega)) (Nat.le_of_ble_eq_true rfl) (Nat.le_of_ble_eq_true rfl) ?_
      rintro _ M2 ⟨rfl, hM2⟩
      rw [hM2]
      clear hM2 M2
      refine g_if_eq 20 29 dMod_activeAt_20 rfl (fun h20 => ?_) (fun h20 => ?_)
      · have hc2 : cntA M e (n + 1) = cntA M e n := by simp [cntA, h20]
        refine g_iload_n 29 dMod_activeAt_29 rfl ?_
        refine g_istore_n 30 dMod_activeAt_30 (by decide) rfl ?_
        refine g_iincN 31 dMod_activeAt_31 rfl (by decide) rfl ?_
        refine g_goto 34 4 dMod_activeAt_34 rfl ?_
        rw [hc2] at ih
        exact ih
      · have hc2 : cntA M e (n + 1) = cntA M e n + 1 := by simp [cntA, h20]
        refine g_iload_n 23 dMod_activeAt_23 rfl ?_
        refine g_iconst 24 (nI 1) dMod_activeAt_24 rfl ?_
        refine g_iaddN 25 dMod_activeAt_25 ?_
        refine g_goto 26 30 dMod_activeAt_26 rfl ?_
        refine g_istore_n 30 dMod_activeAt_30 (by decide) rfl ?_
        refine g_iincN 31 dMod_activeAt_31 rfl (by decide) rfl ?_
        refine g_goto 34 4 dMod_activeAt_34 rfl ?_
        rw [hc2] at ih
        exact ih
set_option maxRecDepth 100000 in
set_option maxHeartbeats 4000000 in
theorem ct_Mod_activeAt {X : mX} {l : Launch} {M : mM} {e : Nat} (hS : Shp M) (he : e < 2) : Ct X l uMod_activeAt (rk 2 43) [.ref 169, .int (nI e)] M (fun r M' => r = some (.int (nI (cntA M e 12))) ∧ M' = M) := by
  refine Ct.of (by decide) (Nat.le_of_ble_eq_true rfl) ?_
  show G X l uMod_activeAt (rk 2 43) 0 0 M 0 [some (.ref 169), some (.int (nI e)), none, none] [] _
  refine g_iconst 0 (nI 0) dMod_activeAt_0 rfl ?_
  refine g_istore_n 1 dMod_activeAt_1 (by decide) rfl ?_
  refine g_iconst 2 (nI 0) dMod_activeAt_2 rfl ?_
  refine g_istore_n 3 dMod_activeAt_3 (by decide) rfl ?_
  exact g_activeAt hS he ⟨rfl, rfl⟩ 12 0 rfl

set_option maxRecDepth 100000 in
set_option maxHeartbeats 4000000 in
theorem ct_Mod_sendWindow {X : mX} {l : Launch} {M : mM} {i : Nat} (hS : Shp M) (hi : i < 24) : Ct X l uMod_sendWindow (rk 0 0) [.ref 169, .int (nI i)] M (fun r M' => r = some (.int (Rtold M (3 * (i / 12) + 2) + Rcredit M i - Rsent M i)) ∧ M' = M) := by
  refine Ct.of (by decide) (Nat.le_of_ble_eq_true rfl) ?_
  show G X l uMod_sendWindow (rk 0 0) 0 0 M 0 [some (.ref 169), some (.int (nI i))] [] _
  refine g_aload_n 0 dMod_sendWindow_0 rfl ?_
  refine g_getr 1 10 37 dMod_sendWindow_1 fs_Mod_120 rfl hS.mod hS.R_told ?_
  refine g_iconst 4 (nI 3) dMod_sendWindow_4 rfl ?_
  refine g_iload_n 5 dMod_sendWindow_5 rfl ?_
  refine g_bipush 6 (nI 12) dMod_sendWindow_6 rfl ?_
  refine g_idivN 8 dMod_sendWindow_8 (by omega) (by decide) (by decide) ?_
  refine g_imulN 9 dMod_sendWindow_9 ?_
  refine g_iconst 10 (nI 2) dMod_sendWindow_10 rfl ?_
  refine g_iaddN 11 dMod_sendWindow_11 ?_
  refine g_ialdN 12 dMod_sendWindow_12 hS.T_told (by omega) (by decide) ?_
  refine g_aload_n 13 dMod_sendWindow_13 rfl ?_
  refine g_getr 14 10 21 dMod_sendWindow_14 fs_Mod_75 rfl hS.mod hS.R_credit ?_
  refine g_iload_n 17 dMod_sendWindow_17 rfl ?_
  refine g_ialdN 18 dMod_sendWindow_18 hS.T_credit (by omega) (by decide) ?_
  refine g_iadd 19 dMod_sendWindow_19 ?_
  refine g_aload_n 20 dMod_sendWindow_20 rfl ?_
  refine g_getr 21 10 20 dMod_sendWindow_21 fs_Mod_72 rfl hS.mod hS.R_sent ?_
  refine g_iload_n 24 dMod_sendWindow_24 rfl ?_
  refine g_ialdN 25 dMod_sendWindow_25 hS.T_sent (by omega) (by decide) ?_
  refine g_isub 26 dMod_sendWindow_26 ?_
  exact g_iret 27 dMod_sendWindow_27 rfl ⟨rfl, rfl⟩

set_option maxRecDepth 100000 in
set_option maxHeartbeats 4000000 in
theorem ct_Mod_receiveWindow {X : mX} {l : Launch} {M : mM} {i : Nat} (hS : Shp M) (hi : i < 24) : Ct X l uMod_receiveWindow (rk 0 0) [.ref 169, .int (nI i)] M (fun r M' => r = some (.int (Rforce M (3 * (i / 12) + 2) + Rback M i - Rgot M i)) ∧ M' = M) := by
  refine Ct.of (by decide) (Nat.le_of_ble_eq_true rfl) ?_
  show G X l uMod_receiveWindow (rk 0 0) 0 0 M 0 [some (.ref 169), some (.int (nI i))] [] _
  refine g_aload_n 0 dMod_receiveWindow_0 rfl ?_
  refine g_getr 1 10 36 dMod_receiveWindow_1 fs_Mod_117 rfl hS.mod hS.R_force ?_
  refine g_iconst 4 (nI 3) dMod_receiveWindow_4 rfl ?_
  refine g_iload_n 5 dMod_receiveWindow_5 rfl ?_
  refine g_bipush 6 (nI 12) dMod_receiveWindow_6 rfl ?_
  refine g_idivN 8 dMod_receiveWindow_8 (by omega) (by decide) (by decide) ?_
  refine g_imulN 9 dMod_receiveWindow_9 ?_
  refine g_iconst 10 (nI 2) dMod_receiveWindow_10 rfl ?_
  refine g_iaddN 11 dMod_receiveWindow_11 ?_
  refine g_ialdN 12 dMod_receiveWindow_12 hS.T_force (by omega) (by decide) ?_
  refine g_aload_n 13 dMod_receiveWindow_13 rfl ?_
  refine g_getr 14 10 23 dMod_receiveWindow_14 fs_Mod_81 rfl hS.mod hS.R_back ?_
  refine g_iload_n 17 dMod_receiveWindow_17 rfl ?_
  refine g_ialdN 18 dMod_receiveWindow_18 hS.T_back (by omega) (by decide) ?_
  refine g_iadd 19 dMod_receiveWindow_19 ?_
  refine g_aload_n 20 dMod_receiveWindow_20 rfl ?_
  refine g_getr 21 10 22 dMod_receiveWindow_21 fs_Mod_78 rfl hS.mod hS.R_got ?_
  refine g_iload_n 24 dMod_receiveWindow_24 rfl ?_
  refine g_ialdN 25 dMod_receiveWindow_25 hS.T_got (by omega) (by decide) ?_
  refine g_isub 26 dMod_receiveWindow_26 ?_
  exact g_iret 27 dMod_receiveWindow_27 rfl ⟨rfl, rfl⟩

set_option maxRecDepth 100000 in
set_option maxHeartbeats 4000000 in
theorem ct_Mod_linkSend {X : mX} {l : Launch} {M : mM} {e : Nat} (hS : Shp M) (he : e < 2) : Ct X l uMod_linkSend (rk 0 0) [.ref 169, .int (nI e)] M (fun r M' => r = some (.int (40 + RlinkCredit M e - RlinkSent M e)) ∧ M' = M) := by
  refine Ct.of (by decide) (Nat.le_of_ble_eq_true rfl) ?_
  show G X l uMod_linkSend (rk 0 0) 0 0 M 0 [some (.ref 169), some (.int (nI e))] [] _
  refine g_bipush 0 40 dMod_linkSend_0 rfl ?_
  refine g_aload_n 2 dMod_linkSend_2 rfl ?_
  refine g_getr 3 10 33 dMod_linkSend_3 fs_Mod_111 rfl hS.mod hS.R_linkCredit ?_
  refine g_iload_n 6 dMod_linkSend_6 rfl ?_
  refine g_ialdN 7 dMod_linkSend_7 hS.T_linkCredit (by omega) (by decide) ?_
  refine g_iadd 8 dMod_linkSend_8 ?_
  refine g_aload_n 9 dMod_linkSend_9 rfl ?_
  refine g_getr 10 10 32 dMod_linkSend_10 fs_Mod_108 rfl hS.mod hS.R_linkSent ?_
  refine g_iload_n 13 dMod_linkSend_13 rfl ?_
  refine g_ialdN 14 dMod_linkSend_14 hS.T_linkSent (by omega) (by decide) ?_
  refine g_isub 15 dMod_linkSend_15 ?_
  exact g_iret 16 dMod_linkSend_16 rfl ⟨rfl, rfl⟩

set_option maxRecDepth 100000 in
set_option maxHeartbeats 4000000 in
theorem ct_Mod_linkReceive {X : mX} {l : Launch} {M : mM} {e : Nat} (hS : Shp M) (he : e < 2) : Ct X l uMod_linkReceive (rk 0 0) [.ref 169, .int (nI e)] M (fun r M' => r = some (.int (40 - Runread M e)) ∧ M' = M) := by
  refine Ct.of (by decide) (Nat.le_of_ble_eq_true rfl) ?_
  show G X l uMod_linkReceive (rk 0 0) 0 0 M 0 [some (.ref 169), some (.int (nI e))] [] _
  refine g_bipush 0 40 dMod_linkReceive_0 rfl ?_
  refine g_aload_n 2 dMod_linkReceive_2 rfl ?_
  refine g_getr 3 10 29 dMod_linkReceive_3 fs_Mod_99 rfl hS.mod hS.R_unread ?_
  refine g_iload_n 6 dMod_linkReceive_6 rfl ?_
  refine g_ialdN 7 dMod_linkReceive_7 hS.T_unread (by omega) (by decide) ?_
  refine g_isub 8 dMod_linkReceive_8 ?_
  exact g_iret 9 dMod_linkReceive_9 rfl ⟨rfl, rfl⟩

def pushM (M : mM) (e h c : Nat) (kd s a f : Int32) : mM := setI (setL (setI (setI (setI (setI (setI M 173 (48 * e + (h + c) % 48) kd) 174 (48 * e + (h + c) % 48) s) 175 (48 * e + (h + c) % 48) a) 176 (48 * e + (h + c) % 48) f) 177 (48 * e + (h + c) % 48) 0) 178 (48 * e + (h + c) % 48) 0) 172 e (nI (c + 1))
set_option maxRecDepth 100000 in
set_option maxHeartbeats 4000000 in
theorem ct_Mod_push {X : mX} {l : Launch} {M : mM} {e h c : Nat} {kd s a f : Int32} (hS : Shp M) (he : e < 2) (hh : Rhead M e = nI h) (hc : Rcount M e = nI c) (hh8 : h < 48) (hc8 : c < 48) (hf : f = 0 ∨ f = 1) : Ct X l uMod_push (rk 0 0) [.ref 169, .int (nI e), .int kd, .int s, .int a, .int f] M (fun r M' => r = some (.int (nI (48 * e + (h + c) % 48))) ∧ M' = pushM M e h c kd s a f) := by
  refine Ct.of (by decide) (Nat.le_of_ble_eq_true rfl) ?_
  show G X l uMod_push (rk 0 0) 0 0 M 0 [some (.ref 169), some (.int (nI e)), some (.int kd), some (.int s), some (.int a), some (.int f), none] [] _
  refine g_bipush 0 (nI 48) dMod_push_0 rfl ?_
  refine g_iload_n 2 dMod_push_2 rfl ?_
  refine g_imulN 3 dMod_push_3 ?_
  refine g_aload_n 4 dMod_push_4 rfl ?_
  refine g_getr 5 10 1 dMod_push_5 fs_Mod_13 rfl hS.mod hS.R_head ?_
  refine g_iload_n 8 dMod_push_8 rfl ?_
  refine g_ialdN 9 dMod_push_9 hS.T_head (by omega) (by decide) ?_
  refine g_top (nI (h)) (hh) ?_
  refine g_aload_n 10 dMod_push_10 rfl ?_
  refine g_getr 11 10 2 dMod_push_11 fs_Mod_16 rfl hS.mod hS.R_count ?_
  refine g_iload_n 14 dMod_push_14 rfl ?_
  refine g_ialdN 15 dMod_push_15 hS.T_count (by omega) (by decide) ?_
  refine g_top (nI (c)) (hc) ?_
  refine g_iaddN 16 dMod_push_16 ?_
  refine g_bipush 17 (nI 48) dMod_push_17 rfl ?_
  refine g_iremN 19 dMod_push_19 (by omega) (by decide) (by decide) ?_
  refine g_iaddN 20 dMod_push_20 ?_
  refine g_istore 21 dMod_push_21 (by decide) rfl ?_
  refine g_aload_n 23 dMod_push_23 rfl ?_
  refine g_getr 24 10 3 dMod_push_24 fs_Mod_19 rfl hS.mod hS.R_kinds ?_
  refine g_iload 27 dMod_push_27 rfl ?_
  refine g_iload_n 29 dMod_push_29 rfl ?_
  refine g_iastN 30 dMod_push_30 hS.T_kinds (by omega) (by decide) ?_
  refine g_aload_n 31 dMod_push_31 rfl ?_
  refine g_getr 32 10 4 dMod_push_32 fs_Mod_22 rfl hS.mod hS.R_streams ?_
  refine g_iload 35 dMod_push_35 rfl ?_
  refine g_iload_n 37 dMod_push_37 rfl ?_
  refine g_iastN 38 dMod_push_38 hS.T_streams (by omega) (by decide) ?_
  refine g_aload_n 39 dMod_push_39 rfl ?_
  refine g_getr 40 10 5 dMod_push_40 fs_Mod_25 rfl hS.mod hS.R_amounts ?_
  refine g_iload 43 dMod_push_43 rfl ?_
  refine g_iload 45 dMod_push_45 rfl ?_
  refine g_iastN 47 dMod_push_47 hS.T_amounts (by omega) (by decide) ?_
  refine g_aload_n 48 dMod_push_48 rfl ?_
  refine g_getr 49 10 6 dMod_push_49 fs_Mod_28 rfl hS.mod hS.R_flags ?_
  refine g_iload 52 dMod_push_52 rfl ?_
  refine g_iload 54 dMod_push_54 rfl ?_
  refine g_zastN 56 dMod_push_56 hS.T_flags (by omega) (by decide) hf ?_
  refine g_aload_n 57 dMod_push_57 rfl ?_
  refine g_getr 58 10 7 dMod_push_58 fs_Mod_32 rfl hS.mod hS.R_settings ?_
  refine g_iload 61 dMod_push_61 rfl ?_
  refine g_iconst 63 0 dMod_push_63 rfl ?_
  refine g_iastN 64 dMod_push_64 hS.T_settings (by omega) (by decide) ?_
  refine g_aload_n 65 dMod_push_65 rfl ?_
  refine g_getr 66 10 8 dMod_push_66 fs_Mod_35 rfl hS.mod hS.R_loads ?_
  refine g_iload 69 dMod_push_69 rfl ?_
  refine g_lconst 71 0 dMod_push_71 rfl ?_
  refine g_lastN 72 dMod_push_72 hS.T_loads (by omega) (by decide) ?_
  refine g_aload_n 73 dMod_push_73 rfl ?_
  refine g_getr 74 10 2 dMod_push_74 fs_Mod_16 rfl hS.mod hS.R_count ?_
  refine g_iload_n 77 dMod_push_77 rfl ?_
  refine g_aload_n 78 dMod_push_78 rfl ?_
  refine g_getr 79 10 2 dMod_push_79 fs_Mod_16 rfl hS.mod hS.R_count ?_
  refine g_iload_n 82 dMod_push_82 rfl ?_
  refine g_ialdN 83 dMod_push_83 hS.T_count (by omega) (by decide) ?_
  refine g_top (nI (c)) ((by simp [mI_setI, mI_setL, mI_setR, up2, hc])) ?_
  refine g_iconst 84 (nI 1) dMod_push_84 rfl ?_
  refine g_iaddN 85 dMod_push_85 ?_
  refine g_iastN 86 dMod_push_86 hS.T_count (by omega) (by decide) ?_
  refine g_iload 87 dMod_push_87 rfl ?_
  exact g_iret 89 dMod_push_89 rfl ⟨rfl, rfl⟩

set_option maxRecDepth 100000 in
set_option maxHeartbeats 4000000 in
theorem ct_Mod_full {X : mX} {l : Launch} {M : mM} {e : Nat} (hS : Shp M) (he : e < 2) : Ct X l uMod_full (rk 0 0) [.ref 169, .int (nI e)] M (fun r M' => r = some (.int (if Rcount M (1 - e) < 30 then 0 else 1)) ∧ M' = M) := by
  refine Ct.of (by decide) (Nat.le_of_ble_eq_true rfl) ?_
  show G X l uMod_full (rk 0 0) 0 0 M 0 [some (.ref 169), some (.int (nI e))] [] _
  refine g_aload_n 0 dMod_full_0 rfl ?_
  refine g_getr 1 10 2 dMod_full_1 fs_Mod_16 rfl hS.mod hS.R_count ?_
  refine g_iconst 4 (nI 1) dMod_full_4 rfl ?_
  refine g_iload_n 5 dMod_full_5 rfl ?_
  refine g_isubN 6 dMod_full_6 (by omega) ?_
  refine g_ialdN 7 dMod_full_7 hS.T_count (by omega) (by decide) ?_
  refine g_bipush 8 30 dMod_full_8 rfl ?_
  refine g_icmp_lt 10 17 dMod_full_10 rfl (fun h10 => ?_) (fun h10 => ?_)
  · refine g_iconst 17 0 dMod_full_17 rfl ?_
    exact g_zret 18 dMod_full_18 rfl (by decide) ⟨by first | (simp only [*, if_true, if_false, not_true_eq_false, not_false_eq_true, and_true, true_and, and_false, false_and, and_self, reduceIte]; done) | (simp_all []; done), rfl⟩
  · refine g_iconst 13 1 dMod_full_13 rfl ?_
    refine g_goto 14 18 dMod_full_14 rfl ?_
    exact g_zret 18 dMod_full_18 rfl (by decide) ⟨by first | (simp only [*, if_true, if_false, not_true_eq_false, not_false_eq_true, and_true, true_and, and_false, false_and, and_self, reduceIte]; done) | (simp_all []; done), rfl⟩

set_option maxRecDepth 100000 in
set_option maxHeartbeats 4000000 in
theorem ct_Mod_sizeOf {X : mX} {l : Launch} {M : mM} {x : Int32} : Ct X l uMod_sizeOf (rk 0 0) [.int x] M (fun r M' => r = some (.int (sizeZ x)) ∧ M' = M) := by
  refine Ct.of (by decide) (Nat.le_of_ble_eq_true rfl) ?_
  show G X l uMod_sizeOf (rk 0 0) 0 0 M 0 [some (.int x)] [] _
  refine g_iload_n 0 dMod_sizeOf_0 rfl ?_
  refine g_if_lt 1 10 dMod_sizeOf_1 rfl (fun h1 => ?_) (fun h1 => ?_)
  · refine g_bipush 10 37 dMod_sizeOf_10 rfl ?_
    refine g_goto 12 40 dMod_sizeOf_12 rfl ?_
    exact g_iret 40 dMod_sizeOf_40 rfl ⟨by first | (simp only [sizeZ, *, if_true, if_false, not_true_eq_false, not_false_eq_true, and_true, true_and, and_false, false_and, and_self, reduceIte]; done) | (simp_all [sizeZ]; done), rfl⟩
  · refine g_iload_n 4 dMod_sizeOf_4 rfl ?_
    refine g_ldc 5 16777215 dMod_sizeOf_5 lc_Mod_205 ?_
    refine g_icmp_le 7 15 dMod_sizeOf_7 rfl (fun h7 => ?_) (fun h7 => ?_)
    · refine g_iload_n 15 dMod_sizeOf_15 rfl ?_
      refine g_ldc 16 65535 dMod_sizeOf_16 lc_Mod_206 ?_
      refine g_icmp_le 18 26 dMod_sizeOf_18 rfl (fun h18 => ?_) (fun h18 => ?_)
      · refine g_iload_n 26 dMod_sizeOf_26 rfl ?_
        refine g_sipush 27 255 dMod_sizeOf_27 rfl ?_
        refine g_icmp_le 30 38 dMod_sizeOf_30 rfl (fun h30 => ?_) (fun h30 => ?_)
        · refine g_bipush 38 34 dMod_sizeOf_38 rfl ?_
          exact g_iret 40 dMod_sizeOf_40 rfl ⟨by first | (simp only [sizeZ, *, if_true, if_false, not_true_eq_false, not_false_eq_true, and_true, true_and, and_false, false_and, and_self, reduceIte]; done) | (simp_all [sizeZ]; done), rfl⟩
        · refine g_bipush 33 35 dMod_sizeOf_33 rfl ?_
          refine g_goto 35 40 dMod_sizeOf_35 rfl ?_
          exact g_iret 40 dMod_sizeOf_40 rfl ⟨by first | (simp only [sizeZ, *, if_true, if_false, not_true_eq_false, not_false_eq_true, and_true, true_and, and_false, false_and, and_self, reduceIte]; done) | (simp_all [sizeZ]; done), rfl⟩
      · refine g_bipush 21 36 dMod_sizeOf_21 rfl ?_
        refine g_goto 23 40 dMod_sizeOf_23 rfl ?_
        exact g_iret 40 dMod_sizeOf_40 rfl ⟨by first | (simp only [sizeZ, *, if_true, if_false, not_true_eq_false, not_false_eq_true, and_true, true_and, and_false, false_and, and_self, reduceIte]; done) | (simp_all [sizeZ]; done), rfl⟩
    · refine g_bipush 10 37 dMod_sizeOf_10 rfl ?_
      refine g_goto 12 40 dMod_sizeOf_12 rfl ?_
      exact g_iret 40 dMod_sizeOf_40 rfl ⟨by first | (simp only [sizeZ, *, if_true, if_false, not_true_eq_false, not_false_eq_true, and_true, true_and, and_false, false_and, and_self, reduceIte]; done) | (simp_all [sizeZ]; done), rfl⟩
end
section
theorem cfw_Block : ∀ k, k < 6 → u_lay "InterleavedLink$Block" T_Block k ∈ gW
  | 0, _ => gW_in 444 (by decide +kernel) rfl
  | 1, _ => gW_in 446 (by decide +kernel) rfl
  | 2, _ => gW_in 448 (by decide +kernel) rfl
  | 3, _ => gW_in 450 (by decide +kernel) rfl
  | 4, _ => gW_in 452 (by decide +kernel) rfl
  | 5, _ => gW_in 454 (by decide +kernel) rfl
  | (_ + 6), h => absurd h (by omega)
theorem cf_Block : cF 11 "InterleavedLink$Block" T_Block 6 := ⟨by decide, rfl, fun w hw => by
  obtain ⟨k, hk, rfl⟩ := List.mem_map.mp hw
  exact cfw_Block k (List.mem_range.mp hk), by decide +kernel, ty_Block, by decide +kernel⟩
theorem cfw_Frame : ∀ k, k < 7 → u_lay "InterleavedLink$Frame" T_Frame k ∈ gW
  | 0, _ => gW_in 533 (by decide +kernel) rfl
  | 1, _ => gW_in 535 (by decide +kernel) rfl
  | 2, _ => gW_in 537 (by decide +kernel) rfl
  | 3, _ => gW_in 539 (by decide +kernel) rfl
  | 4, _ => gW_in 541 (by decide +kernel) rfl
  | 5, _ => gW_in 543 (by decide +kernel) rfl
  | 6, _ => gW_in 545 (by decide +kernel) rfl
  | (_ + 7), h => absurd h (by omega)
theorem cf_Frame : cF 12 "InterleavedLink$Frame" T_Frame 7 := ⟨by decide, rfl, fun w hw => by
  obtain ⟨k, hk, rfl⟩ := List.mem_map.mp hw
  exact cfw_Frame k (List.mem_range.mp hk), by decide +kernel, ty_Frame, by decide +kernel⟩
/-! ===== what holds as the law begins: the numbers of classes and slots, the old cells ===== -/
theorem st_cl {s : State} {args : Array Value} (hts : ∀ w ∈ gW, w.before args s = true) {ci : Nat} {C : String} {T : u_T} {N : Nat} (h : cF ci C T N) (hi : Cond.instantiable C N ∈ gW) : ∃ z : ClassId × (Nat → Nat), ∀ q : vw_C, vwCl[ci]? = some q → u_Kn s q.1 q.2.1 q.2.2 z.1 z.2 := by
  obtain ⟨h1, h2, h3, h4⟩ := h
  obtain ⟨cC, iS, hK⟩ := u_known (C := C) (T := T) (N := N) hts h3 (hts _ hi)
  refine ⟨(cC, iS), fun q hq => ?_⟩
  obtain rfl : (C, T, N) = q := Option.some.inj (h2.symm.trans hq)
  exact hK
theorem st_cls {s : State} {args : Array Value} (hts : ∀ w ∈ gW, w.before args s = true) : ∀ ci : Nat, ∃ z : ClassId × (Nat → Nat), ∀ q : vw_C, vwCl[ci]? = some q → u_Kn s q.1 q.2.1 q.2.2 z.1 z.2
  | 0 => st_cl hts cf_Link (gW_in 81 (by decide +kernel) rfl)
  | 1 => st_cl hts cf_Pipe (gW_in 89 (by decide +kernel) rfl)
  | 2 => st_cl hts cf_End (gW_in 109 (by decide +kernel) rfl)
  | 3 => st_cl hts cf_FList (gW_in 115 (by decide +kernel) rfl)
  | 4 => st_cl hts cf_Enc (gW_in 144 (by decide +kernel) rfl)
  | 5 => st_cl hts cf_Table (gW_in 150 (by decide +kernel) rfl)
  | 6 => st_cl hts cf_Dec (gW_in 194 (by decide +kernel) rfl)
  | 7 => st_cl hts cf_Sett (gW_in 212 (by decide +kernel) rfl)
  | 8 => st_cl hts cf_Stream (gW_in 230 (by decide +kernel) rfl)
  | 9 => st_cl hts cf_BQ (gW_in 236 (by decide +kernel) rfl)
  | 10 => st_cl hts cf_Mod (gW_in 856 (by decide +kernel) rfl)
  | 11 => st_cl hts cf_Block (gW_in 426 (by decide +kernel) rfl)
  | 12 => st_cl hts cf_Frame (gW_in 514 (by decide +kernel) rfl)
  | (n + 13) => ⟨(0, fun _ => 0), fun q h => by simp [vwCl] at h⟩
theorem st_arr {s : State} {args : Array Value} {ty : FieldType} (h : (Cond.arrayClass ty).before args s = true) (hR : ∀ cA, s.vm.findClass ("[" ++ ty.toString) = some cA → va_RA s cA ty) : ∃ cA : ClassId, ArrOfT s cA ty ∧ va_RA s cA ty := by
  obtain ⟨cA, kA, comp, h1, h2, h3⟩ := Cond.arrayClass_spec h
  exact ⟨cA, fun n z => ⟨fun k h => (by cases h), kA, h2, comp, h3⟩, hR cA h1⟩
theorem st_ao {s : State} {C : String} (h : va_AO C s) : ∃ cA : ClassId, ArrOfT s cA (.object C) ∧ va_RA s cA (.object C) := by
  obtain ⟨comp, c, k, h1, h2, h3, h4, h5⟩ := Cond.arrayOver_spec h
  exact ⟨c, fun n z => ⟨fun k h => (by cases h), k, h3, comp, h4⟩, k, comp, h3, h4, h1, h5⟩
def fixN : Nat → Int32 := fun j => match j with
  | 0 => 0
  | 1 => 0
  | 2 => 1
  | 3 => 2
  | 4 => 2
  | _ => 3
def fixV : Nat → Int32 := fun j => match j with
  | 0 => 0
  | 1 => 1
  | 2 => 0
  | 3 => 20
  | 4 => 40
  | _ => 0
/-- what the Statement gives of the two static tables -/
theorem st_fix {args : Array Value} {s : State} (h : (Jvm.Cond.and given_1 narrow_1).before args s = true) (hts : ∀ w ∈ lw_tbl, w.before args s = true) {A : Nat → Prop} (hA : ∀ a : Nat, a < s.heap.size → ¬ A a) :
    (∃ t : Nat, va_Z fixC "FIXED_NAMES" "[I" (.ref t) A s s.heap ∧ va_T .int t 6 (fun j => .int (fixN j)) A s s.heap) ∧ ∃ t : Nat, va_Z fixC "FIXED_VALUES" "[I" (.ref t) A s s.heap ∧ va_T .int t 6 (fun j => .int (fixV j)) A s s.heap := by
  have hs := flat_of_before _ h
  constructor
  · obtain ⟨t, h1, h2⟩ := va_Tof (args := args) (s := s) (tm := .static "InterleavedLink" "FIXED_NAMES" "[I") (ty := .int) (N := 6) (f := fun j => .int (fixN j)) (A := A) (by decide) (hs _ (by decide +kernel)) (va_eqt (hs _ (by decide +kernel))) (fun j hj => by
      rcases (by omega : j = 0 ∨ j = 1 ∨ j = 2 ∨ j = 3 ∨ j = 4 ∨ j = 5) with rfl | rfl | rfl | rfl | rfl | rfl
      · exact va_eqt (z := 0) (hs _ (by decide +kernel))
      · exact va_eqt (z := 0) (hs _ (by decide +kernel))
      · exact va_eqt (z := 1) (hs _ (by decide +kernel))
      · exact va_eqt (z := 2) (hs _ (by decide +kernel))
      · exact va_eqt (z := 2) (hs _ (by decide +kernel))
      · exact va_eqt (z := 3) (hs _ (by decide +kernel))) hA
    exact ⟨t, va_Zof (hts _ (List.mem_of_getElem? (i := 490) (by decide +kernel))) (hts _ (List.mem_of_getElem? (i := 64) (by decide +kernel))) h1 hA, h2⟩
  · obtain ⟨t, h1, h2⟩ := va_Tof (args := args) (s := s) (tm := .static "InterleavedLink" "FIXED_VALUES" "[I") (ty := .int) (N := 6) (f := fun j => .int (fixV j)) (A := A) (by decide) (hs _ (by decide +kernel)) (va_eqt (hs _ (by decide +kernel))) (fun j hj => by
      rcases (by omega : j = 0 ∨ j = 1 ∨ j = 2 ∨ j = 3 ∨ j = 4 ∨ j = 5) with rfl | rfl | rfl | rfl | rfl | rfl
      · exact va_eqt (z := 0) (hs _ (by decide +kernel))
      · exact va_eqt (z := 1) (hs _ (by decide +kernel))
      · exact va_eqt (z := 0) (hs _ (by decide +kernel))
      · exact va_eqt (z := 20) (hs _ (by decide +kernel))
      · exact va_eqt (z := 40) (hs _ (by decide +kernel))
      · exact va_eqt (z := 0) (hs _ (by decide +kernel))) hA
    exact ⟨t, va_Zof (hts _ (List.mem_of_getElem? (i := 500) (by decide +kernel))) (hts _ (List.mem_of_getElem? (i := 64) (by decide +kernel))) h1 hA, h2⟩
/-- the law's entry, in my words -/
theorem st_env {p : Program} {s : State} {m : MethodId} {meth : Method} {c : Code} {b L : Nat} {xs : Nat → Int32} (hx : p.tables.exec = Jvm.exec) (hb : c.code = code) (hr : meth.sig.returnType = some .boolean) (hml : c.maxLocals = 4) (hown : s.vm.findClass "InterleavedLinkLaw" = some m.cls) (hts : ∀ w ∈ lw_tbl, w.before #[Value.ref b] s = true) (hcw : (wC uLaw).before #[Value.ref b] s = true) (hX : va_X b L xs s s.heap) (hbl : b < s.heap.size) (hlk : meth.locks = false) (hnm : meth.name = "law") (hgv : (Jvm.Cond.and given_1 narrow_1).before #[Value.ref b] s = true) :
    ∃ X : mX, Fx X uLaw p s m #[Value.ref b] meth c ∧ Sm X m00 s.heap ∧ xB X = s.heap.size ∧ xO X 0 = b ∧ xL X 0 = L ∧ xI X 0 = xs ∧ xL X 1 = 6 ∧ xI X 1 = fixN ∧ xL X 2 = 6 ∧ xI X 2 = fixV := by
  have htg : ∀ w ∈ gW, w.before #[Value.ref b] s = true := fun w h => hts w (List.mem_filter.mp h).1
  have hA : ∀ a : Nat, a < s.heap.size → ¬ (fun q => s.heap.size ≤ q) a := fun a h q => by
    have q : s.heap.size ≤ a := q
    omega
  obtain ⟨⟨t1, z1, y1⟩, t2, z2, y2⟩ := st_fix hgv hts hA
  have AO : ∀ k, k < 7 → va_AO (aoC k) s := by
    have o4 : va_AO "InterleavedLink$Frame" s := va_AO.of (hts _ (List.mem_of_getElem? (i := 95) (by decide +kernel)))
    have o5 : va_AO "InterleavedLink$Stream" s := va_AO.of (hts _ (List.mem_of_getElem? (i := 210) (by decide +kernel)))
    have o6 : va_AO "InterleavedLink$End" s := va_AO.of (hts _ (List.mem_of_getElem? (i := 108) (by decide +kernel)))
    intro k hk
    rcases (by omega : k = 4 ∨ k = 5 ∨ k = 0 ∨ k = 1 ∨ k = 2 ∨ k = 3 ∨ k = 6) with rfl | rfl | rfl | rfl | rfl | rfl | rfl <;> first | exact o4 | exact o5 | exact o6
  obtain ⟨a0, b0⟩ := st_arr (ty := .int) (htg _ (gW_in 141 (by decide +kernel) rfl)) (fun _ h => h)
  obtain ⟨a1, b1⟩ := st_arr (ty := .byte) (htg _ (gW_in 250 (by decide +kernel) rfl)) (fun _ h => h)
  obtain ⟨a2, b2⟩ := st_arr (ty := .boolean) (htg _ (gW_in 142 (by decide +kernel) rfl)) (fun _ h => h)
  obtain ⟨a3, b3⟩ := st_arr (ty := .long) (htg _ (gW_in 1030 (by decide +kernel) rfl)) (fun _ h => h)
  obtain ⟨a4, b4⟩ := st_ao (AO 4 (by decide))
  obtain ⟨a5, b5⟩ := st_ao (AO 5 (by decide))
  obtain ⟨a6, b6⟩ := st_ao (AO 6 (by decide))
  have hch := fun ci => Classical.choose_spec (st_cls htg ci)
  let X : mX := ((fun ci => (Classical.choose (st_cls htg ci)).1, fun ci => (Classical.choose (st_cls htg ci)).2), fun t => match t with
    | 100 => a0
    | 101 => a1
    | 102 => a2
    | 103 => a3
    | 104 => a4
    | 105 => a5
    | _ => a6, s.heap.size, fun a => match a with
    | 0 => b
    | 1 => t1
    | _ => t2, fun a => match a with
    | 0 => L
    | _ => 6, fun a => match a with
    | 0 => xs
    | 1 => fixN
    | _ => fixV)
  have hK : va_K (xD X) vwCl (mTys X) s := by
    refine ⟨fun ci q hq => hch ci q hq, fun k q hk => ?_⟩
    have hk7 : k < 7 := (List.getElem?_eq_some_iff.mp hk).1
    rcases (by omega : k = 0 ∨ k = 1 ∨ k = 2 ∨ k = 3 ∨ k = 4 ∨ k = 5 ∨ k = 6) with rfl | rfl | rfl | rfl | rfl | rfl | rfl <;> (cases hk; first | exact b0 | exact b1 | exact b2 | exact b3 | exact b4 | exact b5 | exact b6)
  have hT0 : va_T .int b L (fun j => .int (xs j)) (xA X) s s.heap := by
    obtain ⟨scr, h1, h2, h3, h4, h5⟩ := hX
    exact ⟨scr, h1, h2, h3, by omega, by rw [h4], h5, hA b hbl⟩
  have hO : mOd X s := ⟨hK, fun w hw => va_Nw.of (gN_tab hw) (hts w (List.mem_filter.mp hw).1), AO, z1, z2, fun a ha => by
    rcases (by omega : a = 0 ∨ a = 1 ∨ a = 2) with rfl | rfl | rfl
    · exact hT0
    · exact y1
    · exact y2⟩
  refine ⟨X, ⟨hx, hb, hr, hml, hown, fun w hw => ?_, hlk, hnm, hO, Nat.le_refl _⟩, ⟨rfl, Nat.le_refl _, fun a _ => rfl, fun a h1 h2 => absurd h2 (by show ¬ a < 3; omega)⟩, rfl, rfl, rfl, rfl, rfl, rfl, rfl, rfl⟩
  rcases List.mem_cons.mp hw with rfl | hw
  · exact hcw
  · exact htg w hw
end
section
theorem dLaw_law_0 : decode uLaw.2.1 0 = .ok (.new 7, 3) := by decide +kernel
theorem dLaw_law_3 : decode uLaw.2.1 3 = .ok (.dup, 1) := by decide +kernel
theorem dLaw_law_4 : decode uLaw.2.1 4 = .ok (.invokespecial 9, 3) := by decide +kernel
theorem dLaw_law_7 : decode uLaw.2.1 7 = .ok (.astore_n 1, 1) := by decide +kernel
theorem dLaw_law_8 : decode uLaw.2.1 8 = .ok (.new 10, 3) := by decide +kernel
theorem dLaw_law_11 : decode uLaw.2.1 11 = .ok (.dup, 1) := by decide +kernel
theorem dLaw_law_12 : decode uLaw.2.1 12 = .ok (.invokespecial 12, 3) := by decide +kernel
theorem dLaw_law_15 : decode uLaw.2.1 15 = .ok (.astore_n 2, 1) := by decide +kernel
theorem dLaw_law_16 : decode uLaw.2.1 16 = .ok (.iconst 0, 1) := by decide +kernel
theorem dLaw_law_17 : decode uLaw.2.1 17 = .ok (.istore_n 3, 1) := by decide +kernel
theorem dLaw_law_18 : decode uLaw.2.1 18 = .ok (.iload_n 3, 1) := by decide +kernel
theorem dLaw_law_19 : decode uLaw.2.1 19 = .ok (.aload_n 0, 1) := by decide +kernel
theorem dLaw_law_20 : decode uLaw.2.1 20 = .ok (.arraylength, 1) := by decide +kernel
theorem dLaw_law_21 : decode uLaw.2.1 21 = .ok (.bipush 7, 2) := by decide +kernel
theorem dLaw_law_23 : decode uLaw.2.1 23 = .ok (.isub, 1) := by decide +kernel
theorem dLaw_law_24 : decode uLaw.2.1 24 = .ok (.if_icmp .gt 976, 3) := by decide +kernel
theorem dLaw_law_27 : decode uLaw.2.1 27 = .ok (.aload_n 0, 1) := by decide +kernel
theorem dLaw_law_28 : decode uLaw.2.1 28 = .ok (.iload_n 3, 1) := by decide +kernel
theorem dLaw_law_29 : decode uLaw.2.1 29 = .ok (.iaload, 1) := by decide +kernel
theorem dLaw_law_30 : decode uLaw.2.1 30 = .ok (.bipush 31, 2) := by decide +kernel
theorem dLaw_law_32 : decode uLaw.2.1 32 = .ok (.iand, 1) := by decide +kernel
theorem dLaw_law_33 : decode uLaw.2.1 33 = .ok (.tableswitch 961 0 16 #[83, 152, 191, 240, 351, 384, 428, 471, 514, 537, 616, 659, 692, 751, 810, 879, 938], 83) := by decide +kernel
theorem dLaw_law_116 : decode uLaw.2.1 116 = .ok (.aload_n 1, 1) := by decide +kernel
theorem dLaw_law_117 : decode uLaw.2.1 117 = .ok (.aload_n 0, 1) := by decide +kernel
theorem dLaw_law_118 : decode uLaw.2.1 118 = .ok (.iload_n 3, 1) := by decide +kernel
theorem dLaw_law_119 : decode uLaw.2.1 119 = .ok (.iconst 1, 1) := by decide +kernel
theorem dLaw_law_120 : decode uLaw.2.1 120 = .ok (.iadd, 1) := by decide +kernel
theorem dLaw_law_121 : decode uLaw.2.1 121 = .ok (.iaload, 1) := by decide +kernel
theorem dLaw_law_122 : decode uLaw.2.1 122 = .ok (.aload_n 0, 1) := by decide +kernel
theorem dLaw_law_123 : decode uLaw.2.1 123 = .ok (.iload_n 3, 1) := by decide +kernel
theorem dLaw_law_124 : decode uLaw.2.1 124 = .ok (.iconst 2, 1) := by decide +kernel
theorem dLaw_law_125 : decode uLaw.2.1 125 = .ok (.iadd, 1) := by decide +kernel
theorem dLaw_law_126 : decode uLaw.2.1 126 = .ok (.iaload, 1) := by decide +kernel
theorem dLaw_law_127 : decode uLaw.2.1 127 = .ok (.aload_n 0, 1) := by decide +kernel
theorem dLaw_law_128 : decode uLaw.2.1 128 = .ok (.iload_n 3, 1) := by decide +kernel
theorem dLaw_law_129 : decode uLaw.2.1 129 = .ok (.iconst 3, 1) := by decide +kernel
theorem dLaw_law_130 : decode uLaw.2.1 130 = .ok (.iadd, 1) := by decide +kernel
theorem dLaw_law_131 : decode uLaw.2.1 131 = .ok (.iaload, 1) := by decide +kernel
theorem dLaw_law_132 : decode uLaw.2.1 132 = .ok (.aload_n 0, 1) := by decide +kernel
theorem dLaw_law_133 : decode uLaw.2.1 133 = .ok (.iload_n 3, 1) := by decide +kernel
theorem dLaw_law_134 : decode uLaw.2.1 134 = .ok (.iconst 4, 1) := by decide +kernel
theorem dLaw_law_135 : decode uLaw.2.1 135 = .ok (.iadd, 1) := by decide +kernel
theorem dLaw_law_136 : decode uLaw.2.1 136 = .ok (.iaload, 1) := by decide +kernel
theorem dLaw_law_137 : decode uLaw.2.1 137 = .ok (.ifCond .eq 7, 3) := by decide +kernel
theorem dLaw_law_140 : decode uLaw.2.1 140 = .ok (.iconst 1, 1) := by decide +kernel
theorem dLaw_law_141 : decode uLaw.2.1 141 = .ok (.goto 4, 3) := by decide +kernel
theorem dLaw_law_144 : decode uLaw.2.1 144 = .ok (.iconst 0, 1) := by decide +kernel
theorem dLaw_law_145 : decode uLaw.2.1 145 = .ok (.invokevirtual 13, 3) := by decide +kernel
theorem dLaw_law_148 : decode uLaw.2.1 148 = .ok (.aload_n 2, 1) := by decide +kernel
theorem dLaw_law_149 : decode uLaw.2.1 149 = .ok (.aload_n 0, 1) := by decide +kernel
theorem dLaw_law_150 : decode uLaw.2.1 150 = .ok (.iload_n 3, 1) := by decide +kernel
theorem dLaw_law_151 : decode uLaw.2.1 151 = .ok (.iconst 1, 1) := by decide +kernel
theorem dLaw_law_152 : decode uLaw.2.1 152 = .ok (.iadd, 1) := by decide +kernel
theorem dLaw_law_153 : decode uLaw.2.1 153 = .ok (.iaload, 1) := by decide +kernel
theorem dLaw_law_154 : decode uLaw.2.1 154 = .ok (.aload_n 0, 1) := by decide +kernel
theorem dLaw_law_155 : decode uLaw.2.1 155 = .ok (.iload_n 3, 1) := by decide +kernel
theorem dLaw_law_156 : decode uLaw.2.1 156 = .ok (.iconst 2, 1) := by decide +kernel
theorem dLaw_law_157 : decode uLaw.2.1 157 = .ok (.iadd, 1) := by decide +kernel
theorem dLaw_law_158 : decode uLaw.2.1 158 = .ok (.iaload, 1) := by decide +kernel
theorem dLaw_law_159 : decode uLaw.2.1 159 = .ok (.aload_n 0, 1) := by decide +kernel
theorem dLaw_law_160 : decode uLaw.2.1 160 = .ok (.iload_n 3, 1) := by decide +kernel
theorem dLaw_law_161 : decode uLaw.2.1 161 = .ok (.iconst 3, 1) := by decide +kernel
theorem dLaw_law_162 : decode uLaw.2.1 162 = .ok (.iadd, 1) := by decide +kernel
theorem dLaw_law_163 : decode uLaw.2.1 163 = .ok (.iaload, 1) := by decide +kernel
theorem dLaw_law_164 : decode uLaw.2.1 164 = .ok (.aload_n 0, 1) := by decide +kernel
theorem dLaw_law_165 : decode uLaw.2.1 165 = .ok (.iload_n 3, 1) := by decide +kernel
theorem dLaw_law_166 : decode uLaw.2.1 166 = .ok (.iconst 4, 1) := by decide +kernel
theorem dLaw_law_167 : decode uLaw.2.1 167 = .ok (.iadd, 1) := by decide +kernel
theorem dLaw_law_168 : decode uLaw.2.1 168 = .ok (.iaload, 1) := by decide +kernel
theorem dLaw_law_169 : decode uLaw.2.1 169 = .ok (.ifCond .eq 7, 3) := by decide +kernel
theorem dLaw_law_172 : decode uLaw.2.1 172 = .ok (.iconst 1, 1) := by decide +kernel
theorem dLaw_law_173 : decode uLaw.2.1 173 = .ok (.goto 4, 3) := by decide +kernel
theorem dLaw_law_176 : decode uLaw.2.1 176 = .ok (.iconst 0, 1) := by decide +kernel
theorem dLaw_law_177 : decode uLaw.2.1 177 = .ok (.invokevirtual 17, 3) := by decide +kernel
theorem dLaw_law_180 : decode uLaw.2.1 180 = .ok (.if_icmp .eq 814, 3) := by decide +kernel
theorem dLaw_law_183 : decode uLaw.2.1 183 = .ok (.iconst 0, 1) := by decide +kernel
theorem dLaw_law_184 : decode uLaw.2.1 184 = .ok (.ireturn, 1) := by decide +kernel
theorem dLaw_law_185 : decode uLaw.2.1 185 = .ok (.aload_n 1, 1) := by decide +kernel
theorem dLaw_law_186 : decode uLaw.2.1 186 = .ok (.aload_n 0, 1) := by decide +kernel
theorem dLaw_law_187 : decode uLaw.2.1 187 = .ok (.iload_n 3, 1) := by decide +kernel
theorem dLaw_law_188 : decode uLaw.2.1 188 = .ok (.iconst 1, 1) := by decide +kernel
theorem dLaw_law_189 : decode uLaw.2.1 189 = .ok (.iadd, 1) := by decide +kernel
theorem dLaw_law_190 : decode uLaw.2.1 190 = .ok (.iaload, 1) := by decide +kernel
theorem dLaw_law_191 : decode uLaw.2.1 191 = .ok (.ifCond .eq 7, 3) := by decide +kernel
theorem dLaw_law_194 : decode uLaw.2.1 194 = .ok (.iconst 1, 1) := by decide +kernel
theorem dLaw_law_195 : decode uLaw.2.1 195 = .ok (.goto 4, 3) := by decide +kernel
theorem dLaw_law_198 : decode uLaw.2.1 198 = .ok (.iconst 0, 1) := by decide +kernel
theorem dLaw_law_199 : decode uLaw.2.1 199 = .ok (.invokevirtual 18, 3) := by decide +kernel
theorem dLaw_law_202 : decode uLaw.2.1 202 = .ok (.aload_n 2, 1) := by decide +kernel
theorem dLaw_law_203 : decode uLaw.2.1 203 = .ok (.aload_n 0, 1) := by decide +kernel
theorem dLaw_law_204 : decode uLaw.2.1 204 = .ok (.iload_n 3, 1) := by decide +kernel
theorem dLaw_law_205 : decode uLaw.2.1 205 = .ok (.iconst 1, 1) := by decide +kernel
theorem dLaw_law_206 : decode uLaw.2.1 206 = .ok (.iadd, 1) := by decide +kernel
theorem dLaw_law_207 : decode uLaw.2.1 207 = .ok (.iaload, 1) := by decide +kernel
theorem dLaw_law_208 : decode uLaw.2.1 208 = .ok (.ifCond .eq 7, 3) := by decide +kernel
theorem dLaw_law_211 : decode uLaw.2.1 211 = .ok (.iconst 1, 1) := by decide +kernel
theorem dLaw_law_212 : decode uLaw.2.1 212 = .ok (.goto 4, 3) := by decide +kernel
theorem dLaw_law_215 : decode uLaw.2.1 215 = .ok (.iconst 0, 1) := by decide +kernel
theorem dLaw_law_216 : decode uLaw.2.1 216 = .ok (.invokevirtual 22, 3) := by decide +kernel
theorem dLaw_law_219 : decode uLaw.2.1 219 = .ok (.if_icmp .eq 775, 3) := by decide +kernel
theorem dLaw_law_222 : decode uLaw.2.1 222 = .ok (.iconst 0, 1) := by decide +kernel
theorem dLaw_law_223 : decode uLaw.2.1 223 = .ok (.ireturn, 1) := by decide +kernel
theorem dLaw_law_224 : decode uLaw.2.1 224 = .ok (.aload_n 1, 1) := by decide +kernel
theorem dLaw_law_225 : decode uLaw.2.1 225 = .ok (.aload_n 0, 1) := by decide +kernel
theorem dLaw_law_226 : decode uLaw.2.1 226 = .ok (.iload_n 3, 1) := by decide +kernel
theorem dLaw_law_227 : decode uLaw.2.1 227 = .ok (.iconst 1, 1) := by decide +kernel
theorem dLaw_law_228 : decode uLaw.2.1 228 = .ok (.iadd, 1) := by decide +kernel
theorem dLaw_law_229 : decode uLaw.2.1 229 = .ok (.iaload, 1) := by decide +kernel
theorem dLaw_law_230 : decode uLaw.2.1 230 = .ok (.aload_n 0, 1) := by decide +kernel
theorem dLaw_law_231 : decode uLaw.2.1 231 = .ok (.iload_n 3, 1) := by decide +kernel
theorem dLaw_law_232 : decode uLaw.2.1 232 = .ok (.iconst 2, 1) := by decide +kernel
theorem dLaw_law_233 : decode uLaw.2.1 233 = .ok (.iadd, 1) := by decide +kernel
theorem dLaw_law_234 : decode uLaw.2.1 234 = .ok (.iaload, 1) := by decide +kernel
theorem dLaw_law_235 : decode uLaw.2.1 235 = .ok (.ifCond .eq 7, 3) := by decide +kernel
theorem dLaw_law_238 : decode uLaw.2.1 238 = .ok (.iconst 1, 1) := by decide +kernel
theorem dLaw_law_239 : decode uLaw.2.1 239 = .ok (.goto 4, 3) := by decide +kernel
theorem dLaw_law_242 : decode uLaw.2.1 242 = .ok (.iconst 0, 1) := by decide +kernel
theorem dLaw_law_243 : decode uLaw.2.1 243 = .ok (.invokevirtual 23, 3) := by decide +kernel
theorem dLaw_law_246 : decode uLaw.2.1 246 = .ok (.aload_n 2, 1) := by decide +kernel
theorem dLaw_law_247 : decode uLaw.2.1 247 = .ok (.aload_n 0, 1) := by decide +kernel
theorem dLaw_law_248 : decode uLaw.2.1 248 = .ok (.iload_n 3, 1) := by decide +kernel
theorem dLaw_law_249 : decode uLaw.2.1 249 = .ok (.iconst 1, 1) := by decide +kernel
theorem dLaw_law_250 : decode uLaw.2.1 250 = .ok (.iadd, 1) := by decide +kernel
theorem dLaw_law_251 : decode uLaw.2.1 251 = .ok (.iaload, 1) := by decide +kernel
theorem dLaw_law_252 : decode uLaw.2.1 252 = .ok (.aload_n 0, 1) := by decide +kernel
theorem dLaw_law_253 : decode uLaw.2.1 253 = .ok (.iload_n 3, 1) := by decide +kernel
theorem dLaw_law_254 : decode uLaw.2.1 254 = .ok (.iconst 2, 1) := by decide +kernel
theorem dLaw_law_255 : decode uLaw.2.1 255 = .ok (.iadd, 1) := by decide +kernel
theorem dLaw_law_256 : decode uLaw.2.1 256 = .ok (.iaload, 1) := by decide +kernel
theorem dLaw_law_257 : decode uLaw.2.1 257 = .ok (.ifCond .eq 7, 3) := by decide +kernel
theorem dLaw_law_260 : decode uLaw.2.1 260 = .ok (.iconst 1, 1) := by decide +kernel
theorem dLaw_law_261 : decode uLaw.2.1 261 = .ok (.goto 4, 3) := by decide +kernel
theorem dLaw_law_264 : decode uLaw.2.1 264 = .ok (.iconst 0, 1) := by decide +kernel
theorem dLaw_law_265 : decode uLaw.2.1 265 = .ok (.invokevirtual 27, 3) := by decide +kernel
theorem dLaw_law_268 : decode uLaw.2.1 268 = .ok (.if_icmp .eq 726, 3) := by decide +kernel
theorem dLaw_law_271 : decode uLaw.2.1 271 = .ok (.iconst 0, 1) := by decide +kernel
theorem dLaw_law_272 : decode uLaw.2.1 272 = .ok (.ireturn, 1) := by decide +kernel
theorem dLaw_law_273 : decode uLaw.2.1 273 = .ok (.aload_n 1, 1) := by decide +kernel
theorem dLaw_law_274 : decode uLaw.2.1 274 = .ok (.aload_n 0, 1) := by decide +kernel
theorem dLaw_law_275 : decode uLaw.2.1 275 = .ok (.iload_n 3, 1) := by decide +kernel
theorem dLaw_law_276 : decode uLaw.2.1 276 = .ok (.iconst 1, 1) := by decide +kernel
theorem dLaw_law_277 : decode uLaw.2.1 277 = .ok (.iadd, 1) := by decide +kernel
theorem dLaw_law_278 : decode uLaw.2.1 278 = .ok (.iaload, 1) := by decide +kernel
theorem dLaw_law_279 : decode uLaw.2.1 279 = .ok (.aload_n 0, 1) := by decide +kernel
theorem dLaw_law_280 : decode uLaw.2.1 280 = .ok (.iload_n 3, 1) := by decide +kernel
theorem dLaw_law_281 : decode uLaw.2.1 281 = .ok (.iconst 2, 1) := by decide +kernel
theorem dLaw_law_282 : decode uLaw.2.1 282 = .ok (.iadd, 1) := by decide +kernel
theorem dLaw_law_283 : decode uLaw.2.1 283 = .ok (.iaload, 1) := by decide +kernel
theorem dLaw_law_284 : decode uLaw.2.1 284 = .ok (.aload_n 0, 1) := by decide +kernel
theorem dLaw_law_285 : decode uLaw.2.1 285 = .ok (.iload_n 3, 1) := by decide +kernel
theorem dLaw_law_286 : decode uLaw.2.1 286 = .ok (.iconst 3, 1) := by decide +kernel
theorem dLaw_law_287 : decode uLaw.2.1 287 = .ok (.iadd, 1) := by decide +kernel
theorem dLaw_law_288 : decode uLaw.2.1 288 = .ok (.iaload, 1) := by decide +kernel
theorem dLaw_law_289 : decode uLaw.2.1 289 = .ok (.i2l, 1) := by decide +kernel
theorem dLaw_law_290 : decode uLaw.2.1 290 = .ok (.bipush 32, 2) := by decide +kernel
theorem dLaw_law_292 : decode uLaw.2.1 292 = .ok (.lshl, 1) := by decide +kernel
theorem dLaw_law_293 : decode uLaw.2.1 293 = .ok (.aload_n 0, 1) := by decide +kernel
theorem dLaw_law_294 : decode uLaw.2.1 294 = .ok (.iload_n 3, 1) := by decide +kernel
theorem dLaw_law_295 : decode uLaw.2.1 295 = .ok (.iconst 4, 1) := by decide +kernel
theorem dLaw_law_296 : decode uLaw.2.1 296 = .ok (.iadd, 1) := by decide +kernel
theorem dLaw_law_297 : decode uLaw.2.1 297 = .ok (.iaload, 1) := by decide +kernel
theorem dLaw_law_298 : decode uLaw.2.1 298 = .ok (.i2l, 1) := by decide +kernel
theorem dLaw_law_299 : decode uLaw.2.1 299 = .ok (.ldc2_w 28, 3) := by decide +kernel
theorem dLaw_law_302 : decode uLaw.2.1 302 = .ok (.land, 1) := by decide +kernel
theorem dLaw_law_303 : decode uLaw.2.1 303 = .ok (.lor, 1) := by decide +kernel
theorem dLaw_law_304 : decode uLaw.2.1 304 = .ok (.aload_n 0, 1) := by decide +kernel
theorem dLaw_law_305 : decode uLaw.2.1 305 = .ok (.iload_n 3, 1) := by decide +kernel
theorem dLaw_law_306 : decode uLaw.2.1 306 = .ok (.iconst 5, 1) := by decide +kernel
theorem dLaw_law_307 : decode uLaw.2.1 307 = .ok (.iadd, 1) := by decide +kernel
theorem dLaw_law_308 : decode uLaw.2.1 308 = .ok (.iaload, 1) := by decide +kernel
theorem dLaw_law_309 : decode uLaw.2.1 309 = .ok (.aload_n 0, 1) := by decide +kernel
theorem dLaw_law_310 : decode uLaw.2.1 310 = .ok (.iload_n 3, 1) := by decide +kernel
theorem dLaw_law_311 : decode uLaw.2.1 311 = .ok (.bipush 6, 2) := by decide +kernel
theorem dLaw_law_313 : decode uLaw.2.1 313 = .ok (.iadd, 1) := by decide +kernel
theorem dLaw_law_314 : decode uLaw.2.1 314 = .ok (.iaload, 1) := by decide +kernel
theorem dLaw_law_315 : decode uLaw.2.1 315 = .ok (.ifCond .eq 7, 3) := by decide +kernel
theorem dLaw_law_318 : decode uLaw.2.1 318 = .ok (.iconst 1, 1) := by decide +kernel
theorem dLaw_law_319 : decode uLaw.2.1 319 = .ok (.goto 4, 3) := by decide +kernel
theorem dLaw_law_322 : decode uLaw.2.1 322 = .ok (.iconst 0, 1) := by decide +kernel
theorem dLaw_law_323 : decode uLaw.2.1 323 = .ok (.invokevirtual 30, 3) := by decide +kernel
theorem dLaw_law_326 : decode uLaw.2.1 326 = .ok (.aload_n 2, 1) := by decide +kernel
theorem dLaw_law_327 : decode uLaw.2.1 327 = .ok (.aload_n 0, 1) := by decide +kernel
theorem dLaw_law_328 : decode uLaw.2.1 328 = .ok (.iload_n 3, 1) := by decide +kernel
theorem dLaw_law_329 : decode uLaw.2.1 329 = .ok (.iconst 1, 1) := by decide +kernel
theorem dLaw_law_330 : decode uLaw.2.1 330 = .ok (.iadd, 1) := by decide +kernel
theorem dLaw_law_331 : decode uLaw.2.1 331 = .ok (.iaload, 1) := by decide +kernel
theorem dLaw_law_332 : decode uLaw.2.1 332 = .ok (.aload_n 0, 1) := by decide +kernel
theorem dLaw_law_333 : decode uLaw.2.1 333 = .ok (.iload_n 3, 1) := by decide +kernel
theorem dLaw_law_334 : decode uLaw.2.1 334 = .ok (.iconst 2, 1) := by decide +kernel
theorem dLaw_law_335 : decode uLaw.2.1 335 = .ok (.iadd, 1) := by decide +kernel
theorem dLaw_law_336 : decode uLaw.2.1 336 = .ok (.iaload, 1) := by decide +kernel
theorem dLaw_law_337 : decode uLaw.2.1 337 = .ok (.aload_n 0, 1) := by decide +kernel
theorem dLaw_law_338 : decode uLaw.2.1 338 = .ok (.iload_n 3, 1) := by decide +kernel
theorem dLaw_law_339 : decode uLaw.2.1 339 = .ok (.iconst 3, 1) := by decide +kernel
theorem dLaw_law_340 : decode uLaw.2.1 340 = .ok (.iadd, 1) := by decide +kernel
theorem dLaw_law_341 : decode uLaw.2.1 341 = .ok (.iaload, 1) := by decide +kernel
theorem dLaw_law_342 : decode uLaw.2.1 342 = .ok (.i2l, 1) := by decide +kernel
theorem dLaw_law_343 : decode uLaw.2.1 343 = .ok (.bipush 32, 2) := by decide +kernel
theorem dLaw_law_345 : decode uLaw.2.1 345 = .ok (.lshl, 1) := by decide +kernel
theorem dLaw_law_346 : decode uLaw.2.1 346 = .ok (.aload_n 0, 1) := by decide +kernel
theorem dLaw_law_347 : decode uLaw.2.1 347 = .ok (.iload_n 3, 1) := by decide +kernel
theorem dLaw_law_348 : decode uLaw.2.1 348 = .ok (.iconst 4, 1) := by decide +kernel
theorem dLaw_law_349 : decode uLaw.2.1 349 = .ok (.iadd, 1) := by decide +kernel
theorem dLaw_law_350 : decode uLaw.2.1 350 = .ok (.iaload, 1) := by decide +kernel
theorem dLaw_law_351 : decode uLaw.2.1 351 = .ok (.i2l, 1) := by decide +kernel
theorem dLaw_law_352 : decode uLaw.2.1 352 = .ok (.ldc2_w 28, 3) := by decide +kernel
theorem dLaw_law_355 : decode uLaw.2.1 355 = .ok (.land, 1) := by decide +kernel
theorem dLaw_law_356 : decode uLaw.2.1 356 = .ok (.lor, 1) := by decide +kernel
theorem dLaw_law_357 : decode uLaw.2.1 357 = .ok (.aload_n 0, 1) := by decide +kernel
theorem dLaw_law_358 : decode uLaw.2.1 358 = .ok (.iload_n 3, 1) := by decide +kernel
theorem dLaw_law_359 : decode uLaw.2.1 359 = .ok (.iconst 5, 1) := by decide +kernel
theorem dLaw_law_360 : decode uLaw.2.1 360 = .ok (.iadd, 1) := by decide +kernel
theorem dLaw_law_361 : decode uLaw.2.1 361 = .ok (.iaload, 1) := by decide +kernel
theorem dLaw_law_362 : decode uLaw.2.1 362 = .ok (.aload_n 0, 1) := by decide +kernel
theorem dLaw_law_363 : decode uLaw.2.1 363 = .ok (.iload_n 3, 1) := by decide +kernel
theorem dLaw_law_364 : decode uLaw.2.1 364 = .ok (.bipush 6, 2) := by decide +kernel
theorem dLaw_law_366 : decode uLaw.2.1 366 = .ok (.iadd, 1) := by decide +kernel
theorem dLaw_law_367 : decode uLaw.2.1 367 = .ok (.iaload, 1) := by decide +kernel
theorem dLaw_law_368 : decode uLaw.2.1 368 = .ok (.ifCond .eq 7, 3) := by decide +kernel
theorem dLaw_law_371 : decode uLaw.2.1 371 = .ok (.iconst 1, 1) := by decide +kernel
theorem dLaw_law_372 : decode uLaw.2.1 372 = .ok (.goto 4, 3) := by decide +kernel
theorem dLaw_law_375 : decode uLaw.2.1 375 = .ok (.iconst 0, 1) := by decide +kernel
theorem dLaw_law_376 : decode uLaw.2.1 376 = .ok (.invokevirtual 34, 3) := by decide +kernel
theorem dLaw_law_379 : decode uLaw.2.1 379 = .ok (.if_icmp .eq 615, 3) := by decide +kernel
theorem dLaw_law_382 : decode uLaw.2.1 382 = .ok (.iconst 0, 1) := by decide +kernel
theorem dLaw_law_383 : decode uLaw.2.1 383 = .ok (.ireturn, 1) := by decide +kernel
theorem dLaw_law_384 : decode uLaw.2.1 384 = .ok (.aload_n 1, 1) := by decide +kernel
theorem dLaw_law_385 : decode uLaw.2.1 385 = .ok (.aload_n 0, 1) := by decide +kernel
theorem dLaw_law_386 : decode uLaw.2.1 386 = .ok (.iload_n 3, 1) := by decide +kernel
theorem dLaw_law_387 : decode uLaw.2.1 387 = .ok (.iconst 1, 1) := by decide +kernel
theorem dLaw_law_388 : decode uLaw.2.1 388 = .ok (.iadd, 1) := by decide +kernel
theorem dLaw_law_389 : decode uLaw.2.1 389 = .ok (.iaload, 1) := by decide +kernel
theorem dLaw_law_390 : decode uLaw.2.1 390 = .ok (.aload_n 0, 1) := by decide +kernel
theorem dLaw_law_391 : decode uLaw.2.1 391 = .ok (.iload_n 3, 1) := by decide +kernel
theorem dLaw_law_392 : decode uLaw.2.1 392 = .ok (.iconst 2, 1) := by decide +kernel
theorem dLaw_law_393 : decode uLaw.2.1 393 = .ok (.iadd, 1) := by decide +kernel
theorem dLaw_law_394 : decode uLaw.2.1 394 = .ok (.iaload, 1) := by decide +kernel
theorem dLaw_law_395 : decode uLaw.2.1 395 = .ok (.invokevirtual 35, 3) := by decide +kernel
theorem dLaw_law_398 : decode uLaw.2.1 398 = .ok (.aload_n 2, 1) := by decide +kernel
theorem dLaw_law_399 : decode uLaw.2.1 399 = .ok (.aload_n 0, 1) := by decide +kernel
theorem dLaw_law_400 : decode uLaw.2.1 400 = .ok (.iload_n 3, 1) := by decide +kernel
theorem dLaw_law_401 : decode uLaw.2.1 401 = .ok (.iconst 1, 1) := by decide +kernel
theorem dLaw_law_402 : decode uLaw.2.1 402 = .ok (.iadd, 1) := by decide +kernel
theorem dLaw_law_403 : decode uLaw.2.1 403 = .ok (.iaload, 1) := by decide +kernel
theorem dLaw_law_404 : decode uLaw.2.1 404 = .ok (.aload_n 0, 1) := by decide +kernel
theorem dLaw_law_405 : decode uLaw.2.1 405 = .ok (.iload_n 3, 1) := by decide +kernel
theorem dLaw_law_406 : decode uLaw.2.1 406 = .ok (.iconst 2, 1) := by decide +kernel
theorem dLaw_law_407 : decode uLaw.2.1 407 = .ok (.iadd, 1) := by decide +kernel
theorem dLaw_law_408 : decode uLaw.2.1 408 = .ok (.iaload, 1) := by decide +kernel
theorem dLaw_law_409 : decode uLaw.2.1 409 = .ok (.invokevirtual 39, 3) := by decide +kernel
theorem dLaw_law_412 : decode uLaw.2.1 412 = .ok (.if_icmp .eq 582, 3) := by decide +kernel
theorem dLaw_law_415 : decode uLaw.2.1 415 = .ok (.iconst 0, 1) := by decide +kernel
theorem dLaw_law_416 : decode uLaw.2.1 416 = .ok (.ireturn, 1) := by decide +kernel
theorem dLaw_law_417 : decode uLaw.2.1 417 = .ok (.aload_n 1, 1) := by decide +kernel
theorem dLaw_law_418 : decode uLaw.2.1 418 = .ok (.aload_n 0, 1) := by decide +kernel
theorem dLaw_law_419 : decode uLaw.2.1 419 = .ok (.iload_n 3, 1) := by decide +kernel
theorem dLaw_law_420 : decode uLaw.2.1 420 = .ok (.iconst 1, 1) := by decide +kernel
theorem dLaw_law_421 : decode uLaw.2.1 421 = .ok (.iadd, 1) := by decide +kernel
theorem dLaw_law_422 : decode uLaw.2.1 422 = .ok (.iaload, 1) := by decide +kernel
theorem dLaw_law_423 : decode uLaw.2.1 423 = .ok (.aload_n 0, 1) := by decide +kernel
theorem dLaw_law_424 : decode uLaw.2.1 424 = .ok (.iload_n 3, 1) := by decide +kernel
theorem dLaw_law_425 : decode uLaw.2.1 425 = .ok (.iconst 2, 1) := by decide +kernel
theorem dLaw_law_426 : decode uLaw.2.1 426 = .ok (.iadd, 1) := by decide +kernel
theorem dLaw_law_427 : decode uLaw.2.1 427 = .ok (.iaload, 1) := by decide +kernel
theorem dLaw_law_428 : decode uLaw.2.1 428 = .ok (.aload_n 0, 1) := by decide +kernel
theorem dLaw_law_429 : decode uLaw.2.1 429 = .ok (.iload_n 3, 1) := by decide +kernel
theorem dLaw_law_430 : decode uLaw.2.1 430 = .ok (.iconst 3, 1) := by decide +kernel
theorem dLaw_law_431 : decode uLaw.2.1 431 = .ok (.iadd, 1) := by decide +kernel
theorem dLaw_law_432 : decode uLaw.2.1 432 = .ok (.iaload, 1) := by decide +kernel
theorem dLaw_law_433 : decode uLaw.2.1 433 = .ok (.invokevirtual 40, 3) := by decide +kernel
theorem dLaw_law_436 : decode uLaw.2.1 436 = .ok (.aload_n 2, 1) := by decide +kernel
theorem dLaw_law_437 : decode uLaw.2.1 437 = .ok (.aload_n 0, 1) := by decide +kernel
theorem dLaw_law_438 : decode uLaw.2.1 438 = .ok (.iload_n 3, 1) := by decide +kernel
theorem dLaw_law_439 : decode uLaw.2.1 439 = .ok (.iconst 1, 1) := by decide +kernel
theorem dLaw_law_440 : decode uLaw.2.1 440 = .ok (.iadd, 1) := by decide +kernel
theorem dLaw_law_441 : decode uLaw.2.1 441 = .ok (.iaload, 1) := by decide +kernel
theorem dLaw_law_442 : decode uLaw.2.1 442 = .ok (.aload_n 0, 1) := by decide +kernel
theorem dLaw_law_443 : decode uLaw.2.1 443 = .ok (.iload_n 3, 1) := by decide +kernel
theorem dLaw_law_444 : decode uLaw.2.1 444 = .ok (.iconst 2, 1) := by decide +kernel
theorem dLaw_law_445 : decode uLaw.2.1 445 = .ok (.iadd, 1) := by decide +kernel
theorem dLaw_law_446 : decode uLaw.2.1 446 = .ok (.iaload, 1) := by decide +kernel
theorem dLaw_law_447 : decode uLaw.2.1 447 = .ok (.aload_n 0, 1) := by decide +kernel
theorem dLaw_law_448 : decode uLaw.2.1 448 = .ok (.iload_n 3, 1) := by decide +kernel
theorem dLaw_law_449 : decode uLaw.2.1 449 = .ok (.iconst 3, 1) := by decide +kernel
theorem dLaw_law_450 : decode uLaw.2.1 450 = .ok (.iadd, 1) := by decide +kernel
theorem dLaw_law_451 : decode uLaw.2.1 451 = .ok (.iaload, 1) := by decide +kernel
theorem dLaw_law_452 : decode uLaw.2.1 452 = .ok (.invokevirtual 44, 3) := by decide +kernel
theorem dLaw_law_455 : decode uLaw.2.1 455 = .ok (.lcmp, 1) := by decide +kernel
theorem dLaw_law_456 : decode uLaw.2.1 456 = .ok (.ifCond .eq 538, 3) := by decide +kernel
theorem dLaw_law_459 : decode uLaw.2.1 459 = .ok (.iconst 0, 1) := by decide +kernel
theorem dLaw_law_460 : decode uLaw.2.1 460 = .ok (.ireturn, 1) := by decide +kernel
theorem dLaw_law_461 : decode uLaw.2.1 461 = .ok (.aload_n 1, 1) := by decide +kernel
theorem dLaw_law_462 : decode uLaw.2.1 462 = .ok (.aload_n 0, 1) := by decide +kernel
theorem dLaw_law_463 : decode uLaw.2.1 463 = .ok (.iload_n 3, 1) := by decide +kernel
theorem dLaw_law_464 : decode uLaw.2.1 464 = .ok (.iconst 1, 1) := by decide +kernel
theorem dLaw_law_465 : decode uLaw.2.1 465 = .ok (.iadd, 1) := by decide +kernel
theorem dLaw_law_466 : decode uLaw.2.1 466 = .ok (.iaload, 1) := by decide +kernel
theorem dLaw_law_467 : decode uLaw.2.1 467 = .ok (.aload_n 0, 1) := by decide +kernel
theorem dLaw_law_468 : decode uLaw.2.1 468 = .ok (.iload_n 3, 1) := by decide +kernel
theorem dLaw_law_469 : decode uLaw.2.1 469 = .ok (.iconst 2, 1) := by decide +kernel
theorem dLaw_law_470 : decode uLaw.2.1 470 = .ok (.iadd, 1) := by decide +kernel
theorem dLaw_law_471 : decode uLaw.2.1 471 = .ok (.iaload, 1) := by decide +kernel
theorem dLaw_law_472 : decode uLaw.2.1 472 = .ok (.aload_n 0, 1) := by decide +kernel
theorem dLaw_law_473 : decode uLaw.2.1 473 = .ok (.iload_n 3, 1) := by decide +kernel
theorem dLaw_law_474 : decode uLaw.2.1 474 = .ok (.iconst 3, 1) := by decide +kernel
theorem dLaw_law_475 : decode uLaw.2.1 475 = .ok (.iadd, 1) := by decide +kernel
theorem dLaw_law_476 : decode uLaw.2.1 476 = .ok (.iaload, 1) := by decide +kernel
theorem dLaw_law_477 : decode uLaw.2.1 477 = .ok (.invokevirtual 45, 3) := by decide +kernel
theorem dLaw_law_480 : decode uLaw.2.1 480 = .ok (.aload_n 2, 1) := by decide +kernel
theorem dLaw_law_481 : decode uLaw.2.1 481 = .ok (.aload_n 0, 1) := by decide +kernel
theorem dLaw_law_482 : decode uLaw.2.1 482 = .ok (.iload_n 3, 1) := by decide +kernel
theorem dLaw_law_483 : decode uLaw.2.1 483 = .ok (.iconst 1, 1) := by decide +kernel
theorem dLaw_law_484 : decode uLaw.2.1 484 = .ok (.iadd, 1) := by decide +kernel
theorem dLaw_law_485 : decode uLaw.2.1 485 = .ok (.iaload, 1) := by decide +kernel
theorem dLaw_law_486 : decode uLaw.2.1 486 = .ok (.aload_n 0, 1) := by decide +kernel
theorem dLaw_law_487 : decode uLaw.2.1 487 = .ok (.iload_n 3, 1) := by decide +kernel
theorem dLaw_law_488 : decode uLaw.2.1 488 = .ok (.iconst 2, 1) := by decide +kernel
theorem dLaw_law_489 : decode uLaw.2.1 489 = .ok (.iadd, 1) := by decide +kernel
theorem dLaw_law_490 : decode uLaw.2.1 490 = .ok (.iaload, 1) := by decide +kernel
theorem dLaw_law_491 : decode uLaw.2.1 491 = .ok (.aload_n 0, 1) := by decide +kernel
theorem dLaw_law_492 : decode uLaw.2.1 492 = .ok (.iload_n 3, 1) := by decide +kernel
theorem dLaw_law_493 : decode uLaw.2.1 493 = .ok (.iconst 3, 1) := by decide +kernel
theorem dLaw_law_494 : decode uLaw.2.1 494 = .ok (.iadd, 1) := by decide +kernel
theorem dLaw_law_495 : decode uLaw.2.1 495 = .ok (.iaload, 1) := by decide +kernel
theorem dLaw_law_496 : decode uLaw.2.1 496 = .ok (.invokevirtual 49, 3) := by decide +kernel
theorem dLaw_law_499 : decode uLaw.2.1 499 = .ok (.if_icmp .eq 495, 3) := by decide +kernel
theorem dLaw_law_502 : decode uLaw.2.1 502 = .ok (.iconst 0, 1) := by decide +kernel
theorem dLaw_law_503 : decode uLaw.2.1 503 = .ok (.ireturn, 1) := by decide +kernel
theorem dLaw_law_504 : decode uLaw.2.1 504 = .ok (.aload_n 1, 1) := by decide +kernel
theorem dLaw_law_505 : decode uLaw.2.1 505 = .ok (.aload_n 0, 1) := by decide +kernel
theorem dLaw_law_506 : decode uLaw.2.1 506 = .ok (.iload_n 3, 1) := by decide +kernel
theorem dLaw_law_507 : decode uLaw.2.1 507 = .ok (.iconst 1, 1) := by decide +kernel
theorem dLaw_law_508 : decode uLaw.2.1 508 = .ok (.iadd, 1) := by decide +kernel
theorem dLaw_law_509 : decode uLaw.2.1 509 = .ok (.iaload, 1) := by decide +kernel
theorem dLaw_law_510 : decode uLaw.2.1 510 = .ok (.aload_n 0, 1) := by decide +kernel
theorem dLaw_law_511 : decode uLaw.2.1 511 = .ok (.iload_n 3, 1) := by decide +kernel
theorem dLaw_law_512 : decode uLaw.2.1 512 = .ok (.iconst 2, 1) := by decide +kernel
theorem dLaw_law_513 : decode uLaw.2.1 513 = .ok (.iadd, 1) := by decide +kernel
theorem dLaw_law_514 : decode uLaw.2.1 514 = .ok (.iaload, 1) := by decide +kernel
theorem dLaw_law_515 : decode uLaw.2.1 515 = .ok (.aload_n 0, 1) := by decide +kernel
theorem dLaw_law_516 : decode uLaw.2.1 516 = .ok (.iload_n 3, 1) := by decide +kernel
theorem dLaw_law_517 : decode uLaw.2.1 517 = .ok (.iconst 3, 1) := by decide +kernel
theorem dLaw_law_518 : decode uLaw.2.1 518 = .ok (.iadd, 1) := by decide +kernel
theorem dLaw_law_519 : decode uLaw.2.1 519 = .ok (.iaload, 1) := by decide +kernel
theorem dLaw_law_520 : decode uLaw.2.1 520 = .ok (.invokevirtual 50, 3) := by decide +kernel
theorem dLaw_law_523 : decode uLaw.2.1 523 = .ok (.aload_n 2, 1) := by decide +kernel
theorem dLaw_law_524 : decode uLaw.2.1 524 = .ok (.aload_n 0, 1) := by decide +kernel
theorem dLaw_law_525 : decode uLaw.2.1 525 = .ok (.iload_n 3, 1) := by decide +kernel
theorem dLaw_law_526 : decode uLaw.2.1 526 = .ok (.iconst 1, 1) := by decide +kernel
theorem dLaw_law_527 : decode uLaw.2.1 527 = .ok (.iadd, 1) := by decide +kernel
theorem dLaw_law_528 : decode uLaw.2.1 528 = .ok (.iaload, 1) := by decide +kernel
theorem dLaw_law_529 : decode uLaw.2.1 529 = .ok (.aload_n 0, 1) := by decide +kernel
theorem dLaw_law_530 : decode uLaw.2.1 530 = .ok (.iload_n 3, 1) := by decide +kernel
theorem dLaw_law_531 : decode uLaw.2.1 531 = .ok (.iconst 2, 1) := by decide +kernel
theorem dLaw_law_532 : decode uLaw.2.1 532 = .ok (.iadd, 1) := by decide +kernel
theorem dLaw_law_533 : decode uLaw.2.1 533 = .ok (.iaload, 1) := by decide +kernel
theorem dLaw_law_534 : decode uLaw.2.1 534 = .ok (.aload_n 0, 1) := by decide +kernel
theorem dLaw_law_535 : decode uLaw.2.1 535 = .ok (.iload_n 3, 1) := by decide +kernel
theorem dLaw_law_536 : decode uLaw.2.1 536 = .ok (.iconst 3, 1) := by decide +kernel
theorem dLaw_law_537 : decode uLaw.2.1 537 = .ok (.iadd, 1) := by decide +kernel
theorem dLaw_law_538 : decode uLaw.2.1 538 = .ok (.iaload, 1) := by decide +kernel
theorem dLaw_law_539 : decode uLaw.2.1 539 = .ok (.invokevirtual 53, 3) := by decide +kernel
theorem dLaw_law_542 : decode uLaw.2.1 542 = .ok (.if_icmp .eq 452, 3) := by decide +kernel
theorem dLaw_law_545 : decode uLaw.2.1 545 = .ok (.iconst 0, 1) := by decide +kernel
theorem dLaw_law_546 : decode uLaw.2.1 546 = .ok (.ireturn, 1) := by decide +kernel
theorem dLaw_law_547 : decode uLaw.2.1 547 = .ok (.aload_n 1, 1) := by decide +kernel
theorem dLaw_law_548 : decode uLaw.2.1 548 = .ok (.aload_n 0, 1) := by decide +kernel
theorem dLaw_law_549 : decode uLaw.2.1 549 = .ok (.iload_n 3, 1) := by decide +kernel
theorem dLaw_law_550 : decode uLaw.2.1 550 = .ok (.iconst 1, 1) := by decide +kernel
theorem dLaw_law_551 : decode uLaw.2.1 551 = .ok (.iadd, 1) := by decide +kernel
theorem dLaw_law_552 : decode uLaw.2.1 552 = .ok (.iaload, 1) := by decide +kernel
theorem dLaw_law_553 : decode uLaw.2.1 553 = .ok (.invokevirtual 54, 3) := by decide +kernel
theorem dLaw_law_556 : decode uLaw.2.1 556 = .ok (.aload_n 2, 1) := by decide +kernel
theorem dLaw_law_557 : decode uLaw.2.1 557 = .ok (.aload_n 0, 1) := by decide +kernel
theorem dLaw_law_558 : decode uLaw.2.1 558 = .ok (.iload_n 3, 1) := by decide +kernel
theorem dLaw_law_559 : decode uLaw.2.1 559 = .ok (.iconst 1, 1) := by decide +kernel
theorem dLaw_law_560 : decode uLaw.2.1 560 = .ok (.iadd, 1) := by decide +kernel
theorem dLaw_law_561 : decode uLaw.2.1 561 = .ok (.iaload, 1) := by decide +kernel
theorem dLaw_law_562 : decode uLaw.2.1 562 = .ok (.invokevirtual 58, 3) := by decide +kernel
theorem dLaw_law_565 : decode uLaw.2.1 565 = .ok (.if_icmp .eq 429, 3) := by decide +kernel
theorem dLaw_law_568 : decode uLaw.2.1 568 = .ok (.iconst 0, 1) := by decide +kernel
theorem dLaw_law_569 : decode uLaw.2.1 569 = .ok (.ireturn, 1) := by decide +kernel
theorem dLaw_law_570 : decode uLaw.2.1 570 = .ok (.aload_n 1, 1) := by decide +kernel
theorem dLaw_law_571 : decode uLaw.2.1 571 = .ok (.aload_n 0, 1) := by decide +kernel
theorem dLaw_law_572 : decode uLaw.2.1 572 = .ok (.iload_n 3, 1) := by decide +kernel
theorem dLaw_law_573 : decode uLaw.2.1 573 = .ok (.iconst 1, 1) := by decide +kernel
theorem dLaw_law_574 : decode uLaw.2.1 574 = .ok (.iadd, 1) := by decide +kernel
theorem dLaw_law_575 : decode uLaw.2.1 575 = .ok (.iaload, 1) := by decide +kernel
theorem dLaw_law_576 : decode uLaw.2.1 576 = .ok (.aload_n 0, 1) := by decide +kernel
theorem dLaw_law_577 : decode uLaw.2.1 577 = .ok (.iload_n 3, 1) := by decide +kernel
theorem dLaw_law_578 : decode uLaw.2.1 578 = .ok (.iconst 2, 1) := by decide +kernel
theorem dLaw_law_579 : decode uLaw.2.1 579 = .ok (.iadd, 1) := by decide +kernel
theorem dLaw_law_580 : decode uLaw.2.1 580 = .ok (.iaload, 1) := by decide +kernel
theorem dLaw_law_581 : decode uLaw.2.1 581 = .ok (.aload_n 0, 1) := by decide +kernel
theorem dLaw_law_582 : decode uLaw.2.1 582 = .ok (.iload_n 3, 1) := by decide +kernel
theorem dLaw_law_583 : decode uLaw.2.1 583 = .ok (.iconst 3, 1) := by decide +kernel
theorem dLaw_law_584 : decode uLaw.2.1 584 = .ok (.iadd, 1) := by decide +kernel
theorem dLaw_law_585 : decode uLaw.2.1 585 = .ok (.iaload, 1) := by decide +kernel
theorem dLaw_law_586 : decode uLaw.2.1 586 = .ok (.aload_n 0, 1) := by decide +kernel
theorem dLaw_law_587 : decode uLaw.2.1 587 = .ok (.iload_n 3, 1) := by decide +kernel
theorem dLaw_law_588 : decode uLaw.2.1 588 = .ok (.iconst 4, 1) := by decide +kernel
theorem dLaw_law_589 : decode uLaw.2.1 589 = .ok (.iadd, 1) := by decide +kernel
theorem dLaw_law_590 : decode uLaw.2.1 590 = .ok (.iaload, 1) := by decide +kernel
theorem dLaw_law_591 : decode uLaw.2.1 591 = .ok (.aload_n 0, 1) := by decide +kernel
theorem dLaw_law_592 : decode uLaw.2.1 592 = .ok (.iload_n 3, 1) := by decide +kernel
theorem dLaw_law_593 : decode uLaw.2.1 593 = .ok (.iconst 5, 1) := by decide +kernel
theorem dLaw_law_594 : decode uLaw.2.1 594 = .ok (.iadd, 1) := by decide +kernel
theorem dLaw_law_595 : decode uLaw.2.1 595 = .ok (.iaload, 1) := by decide +kernel
theorem dLaw_law_596 : decode uLaw.2.1 596 = .ok (.ifCond .eq 7, 3) := by decide +kernel
theorem dLaw_law_599 : decode uLaw.2.1 599 = .ok (.iconst 1, 1) := by decide +kernel
theorem dLaw_law_600 : decode uLaw.2.1 600 = .ok (.goto 4, 3) := by decide +kernel
theorem dLaw_law_603 : decode uLaw.2.1 603 = .ok (.iconst 0, 1) := by decide +kernel
theorem dLaw_law_604 : decode uLaw.2.1 604 = .ok (.invokevirtual 59, 3) := by decide +kernel
theorem dLaw_law_607 : decode uLaw.2.1 607 = .ok (.aload_n 2, 1) := by decide +kernel
theorem dLaw_law_608 : decode uLaw.2.1 608 = .ok (.aload_n 0, 1) := by decide +kernel
theorem dLaw_law_609 : decode uLaw.2.1 609 = .ok (.iload_n 3, 1) := by decide +kernel
theorem dLaw_law_610 : decode uLaw.2.1 610 = .ok (.iconst 1, 1) := by decide +kernel
theorem dLaw_law_611 : decode uLaw.2.1 611 = .ok (.iadd, 1) := by decide +kernel
theorem dLaw_law_612 : decode uLaw.2.1 612 = .ok (.iaload, 1) := by decide +kernel
theorem dLaw_law_613 : decode uLaw.2.1 613 = .ok (.aload_n 0, 1) := by decide +kernel
theorem dLaw_law_614 : decode uLaw.2.1 614 = .ok (.iload_n 3, 1) := by decide +kernel
theorem dLaw_law_615 : decode uLaw.2.1 615 = .ok (.iconst 2, 1) := by decide +kernel
theorem dLaw_law_616 : decode uLaw.2.1 616 = .ok (.iadd, 1) := by decide +kernel
theorem dLaw_law_617 : decode uLaw.2.1 617 = .ok (.iaload, 1) := by decide +kernel
theorem dLaw_law_618 : decode uLaw.2.1 618 = .ok (.aload_n 0, 1) := by decide +kernel
theorem dLaw_law_619 : decode uLaw.2.1 619 = .ok (.iload_n 3, 1) := by decide +kernel
theorem dLaw_law_620 : decode uLaw.2.1 620 = .ok (.iconst 3, 1) := by decide +kernel
theorem dLaw_law_621 : decode uLaw.2.1 621 = .ok (.iadd, 1) := by decide +kernel
theorem dLaw_law_622 : decode uLaw.2.1 622 = .ok (.iaload, 1) := by decide +kernel
theorem dLaw_law_623 : decode uLaw.2.1 623 = .ok (.aload_n 0, 1) := by decide +kernel
theorem dLaw_law_624 : decode uLaw.2.1 624 = .ok (.iload_n 3, 1) := by decide +kernel
theorem dLaw_law_625 : decode uLaw.2.1 625 = .ok (.iconst 4, 1) := by decide +kernel
theorem dLaw_law_626 : decode uLaw.2.1 626 = .ok (.iadd, 1) := by decide +kernel
theorem dLaw_law_627 : decode uLaw.2.1 627 = .ok (.iaload, 1) := by decide +kernel
theorem dLaw_law_628 : decode uLaw.2.1 628 = .ok (.aload_n 0, 1) := by decide +kernel
theorem dLaw_law_629 : decode uLaw.2.1 629 = .ok (.iload_n 3, 1) := by decide +kernel
theorem dLaw_law_630 : decode uLaw.2.1 630 = .ok (.iconst 5, 1) := by decide +kernel
theorem dLaw_law_631 : decode uLaw.2.1 631 = .ok (.iadd, 1) := by decide +kernel
theorem dLaw_law_632 : decode uLaw.2.1 632 = .ok (.iaload, 1) := by decide +kernel
theorem dLaw_law_633 : decode uLaw.2.1 633 = .ok (.ifCond .eq 7, 3) := by decide +kernel
theorem dLaw_law_636 : decode uLaw.2.1 636 = .ok (.iconst 1, 1) := by decide +kernel
theorem dLaw_law_637 : decode uLaw.2.1 637 = .ok (.goto 4, 3) := by decide +kernel
theorem dLaw_law_640 : decode uLaw.2.1 640 = .ok (.iconst 0, 1) := by decide +kernel
theorem dLaw_law_641 : decode uLaw.2.1 641 = .ok (.invokevirtual 63, 3) := by decide +kernel
theorem dLaw_law_644 : decode uLaw.2.1 644 = .ok (.if_icmp .eq 350, 3) := by decide +kernel
theorem dLaw_law_647 : decode uLaw.2.1 647 = .ok (.iconst 0, 1) := by decide +kernel
theorem dLaw_law_648 : decode uLaw.2.1 648 = .ok (.ireturn, 1) := by decide +kernel
theorem dLaw_law_649 : decode uLaw.2.1 649 = .ok (.aload_n 1, 1) := by decide +kernel
theorem dLaw_law_650 : decode uLaw.2.1 650 = .ok (.aload_n 0, 1) := by decide +kernel
theorem dLaw_law_651 : decode uLaw.2.1 651 = .ok (.iload_n 3, 1) := by decide +kernel
theorem dLaw_law_652 : decode uLaw.2.1 652 = .ok (.iconst 1, 1) := by decide +kernel
theorem dLaw_law_653 : decode uLaw.2.1 653 = .ok (.iadd, 1) := by decide +kernel
theorem dLaw_law_654 : decode uLaw.2.1 654 = .ok (.iaload, 1) := by decide +kernel
theorem dLaw_law_655 : decode uLaw.2.1 655 = .ok (.aload_n 0, 1) := by decide +kernel
theorem dLaw_law_656 : decode uLaw.2.1 656 = .ok (.iload_n 3, 1) := by decide +kernel
theorem dLaw_law_657 : decode uLaw.2.1 657 = .ok (.iconst 2, 1) := by decide +kernel
theorem dLaw_law_658 : decode uLaw.2.1 658 = .ok (.iadd, 1) := by decide +kernel
theorem dLaw_law_659 : decode uLaw.2.1 659 = .ok (.iaload, 1) := by decide +kernel
theorem dLaw_law_660 : decode uLaw.2.1 660 = .ok (.aload_n 0, 1) := by decide +kernel
theorem dLaw_law_661 : decode uLaw.2.1 661 = .ok (.iload_n 3, 1) := by decide +kernel
theorem dLaw_law_662 : decode uLaw.2.1 662 = .ok (.iconst 3, 1) := by decide +kernel
theorem dLaw_law_663 : decode uLaw.2.1 663 = .ok (.iadd, 1) := by decide +kernel
theorem dLaw_law_664 : decode uLaw.2.1 664 = .ok (.iaload, 1) := by decide +kernel
theorem dLaw_law_665 : decode uLaw.2.1 665 = .ok (.invokevirtual 64, 3) := by decide +kernel
theorem dLaw_law_668 : decode uLaw.2.1 668 = .ok (.aload_n 2, 1) := by decide +kernel
theorem dLaw_law_669 : decode uLaw.2.1 669 = .ok (.aload_n 0, 1) := by decide +kernel
theorem dLaw_law_670 : decode uLaw.2.1 670 = .ok (.iload_n 3, 1) := by decide +kernel
theorem dLaw_law_671 : decode uLaw.2.1 671 = .ok (.iconst 1, 1) := by decide +kernel
theorem dLaw_law_672 : decode uLaw.2.1 672 = .ok (.iadd, 1) := by decide +kernel
theorem dLaw_law_673 : decode uLaw.2.1 673 = .ok (.iaload, 1) := by decide +kernel
theorem dLaw_law_674 : decode uLaw.2.1 674 = .ok (.aload_n 0, 1) := by decide +kernel
theorem dLaw_law_675 : decode uLaw.2.1 675 = .ok (.iload_n 3, 1) := by decide +kernel
theorem dLaw_law_676 : decode uLaw.2.1 676 = .ok (.iconst 2, 1) := by decide +kernel
theorem dLaw_law_677 : decode uLaw.2.1 677 = .ok (.iadd, 1) := by decide +kernel
theorem dLaw_law_678 : decode uLaw.2.1 678 = .ok (.iaload, 1) := by decide +kernel
theorem dLaw_law_679 : decode uLaw.2.1 679 = .ok (.aload_n 0, 1) := by decide +kernel
theorem dLaw_law_680 : decode uLaw.2.1 680 = .ok (.iload_n 3, 1) := by decide +kernel
theorem dLaw_law_681 : decode uLaw.2.1 681 = .ok (.iconst 3, 1) := by decide +kernel
theorem dLaw_law_682 : decode uLaw.2.1 682 = .ok (.iadd, 1) := by decide +kernel
theorem dLaw_law_683 : decode uLaw.2.1 683 = .ok (.iaload, 1) := by decide +kernel
theorem dLaw_law_684 : decode uLaw.2.1 684 = .ok (.invokevirtual 68, 3) := by decide +kernel
theorem dLaw_law_687 : decode uLaw.2.1 687 = .ok (.if_icmp .eq 307, 3) := by decide +kernel
theorem dLaw_law_690 : decode uLaw.2.1 690 = .ok (.iconst 0, 1) := by decide +kernel
theorem dLaw_law_691 : decode uLaw.2.1 691 = .ok (.ireturn, 1) := by decide +kernel
theorem dLaw_law_692 : decode uLaw.2.1 692 = .ok (.aload_n 1, 1) := by decide +kernel
theorem dLaw_law_693 : decode uLaw.2.1 693 = .ok (.aload_n 0, 1) := by decide +kernel
theorem dLaw_law_694 : decode uLaw.2.1 694 = .ok (.iload_n 3, 1) := by decide +kernel
theorem dLaw_law_695 : decode uLaw.2.1 695 = .ok (.iconst 1, 1) := by decide +kernel
theorem dLaw_law_696 : decode uLaw.2.1 696 = .ok (.iadd, 1) := by decide +kernel
theorem dLaw_law_697 : decode uLaw.2.1 697 = .ok (.iaload, 1) := by decide +kernel
theorem dLaw_law_698 : decode uLaw.2.1 698 = .ok (.aload_n 0, 1) := by decide +kernel
theorem dLaw_law_699 : decode uLaw.2.1 699 = .ok (.iload_n 3, 1) := by decide +kernel
theorem dLaw_law_700 : decode uLaw.2.1 700 = .ok (.iconst 2, 1) := by decide +kernel
theorem dLaw_law_701 : decode uLaw.2.1 701 = .ok (.iadd, 1) := by decide +kernel
theorem dLaw_law_702 : decode uLaw.2.1 702 = .ok (.iaload, 1) := by decide +kernel
theorem dLaw_law_703 : decode uLaw.2.1 703 = .ok (.invokevirtual 69, 3) := by decide +kernel
theorem dLaw_law_706 : decode uLaw.2.1 706 = .ok (.aload_n 2, 1) := by decide +kernel
theorem dLaw_law_707 : decode uLaw.2.1 707 = .ok (.aload_n 0, 1) := by decide +kernel
theorem dLaw_law_708 : decode uLaw.2.1 708 = .ok (.iload_n 3, 1) := by decide +kernel
theorem dLaw_law_709 : decode uLaw.2.1 709 = .ok (.iconst 1, 1) := by decide +kernel
theorem dLaw_law_710 : decode uLaw.2.1 710 = .ok (.iadd, 1) := by decide +kernel
theorem dLaw_law_711 : decode uLaw.2.1 711 = .ok (.iaload, 1) := by decide +kernel
theorem dLaw_law_712 : decode uLaw.2.1 712 = .ok (.aload_n 0, 1) := by decide +kernel
theorem dLaw_law_713 : decode uLaw.2.1 713 = .ok (.iload_n 3, 1) := by decide +kernel
theorem dLaw_law_714 : decode uLaw.2.1 714 = .ok (.iconst 2, 1) := by decide +kernel
theorem dLaw_law_715 : decode uLaw.2.1 715 = .ok (.iadd, 1) := by decide +kernel
theorem dLaw_law_716 : decode uLaw.2.1 716 = .ok (.iaload, 1) := by decide +kernel
theorem dLaw_law_717 : decode uLaw.2.1 717 = .ok (.invokevirtual 72, 3) := by decide +kernel
theorem dLaw_law_720 : decode uLaw.2.1 720 = .ok (.if_icmp .eq 274, 3) := by decide +kernel
theorem dLaw_law_723 : decode uLaw.2.1 723 = .ok (.iconst 0, 1) := by decide +kernel
theorem dLaw_law_724 : decode uLaw.2.1 724 = .ok (.ireturn, 1) := by decide +kernel
theorem dLaw_law_725 : decode uLaw.2.1 725 = .ok (.aload_n 1, 1) := by decide +kernel
theorem dLaw_law_726 : decode uLaw.2.1 726 = .ok (.aload_n 0, 1) := by decide +kernel
theorem dLaw_law_727 : decode uLaw.2.1 727 = .ok (.iload_n 3, 1) := by decide +kernel
theorem dLaw_law_728 : decode uLaw.2.1 728 = .ok (.iconst 1, 1) := by decide +kernel
theorem dLaw_law_729 : decode uLaw.2.1 729 = .ok (.iadd, 1) := by decide +kernel
theorem dLaw_law_730 : decode uLaw.2.1 730 = .ok (.iaload, 1) := by decide +kernel
theorem dLaw_law_731 : decode uLaw.2.1 731 = .ok (.aload_n 0, 1) := by decide +kernel
theorem dLaw_law_732 : decode uLaw.2.1 732 = .ok (.iload_n 3, 1) := by decide +kernel
theorem dLaw_law_733 : decode uLaw.2.1 733 = .ok (.iconst 2, 1) := by decide +kernel
theorem dLaw_law_734 : decode uLaw.2.1 734 = .ok (.iadd, 1) := by decide +kernel
theorem dLaw_law_735 : decode uLaw.2.1 735 = .ok (.iaload, 1) := by decide +kernel
theorem dLaw_law_736 : decode uLaw.2.1 736 = .ok (.aload_n 0, 1) := by decide +kernel
theorem dLaw_law_737 : decode uLaw.2.1 737 = .ok (.iload_n 3, 1) := by decide +kernel
theorem dLaw_law_738 : decode uLaw.2.1 738 = .ok (.iconst 3, 1) := by decide +kernel
theorem dLaw_law_739 : decode uLaw.2.1 739 = .ok (.iadd, 1) := by decide +kernel
theorem dLaw_law_740 : decode uLaw.2.1 740 = .ok (.iaload, 1) := by decide +kernel
theorem dLaw_law_741 : decode uLaw.2.1 741 = .ok (.ifCond .eq 7, 3) := by decide +kernel
theorem dLaw_law_744 : decode uLaw.2.1 744 = .ok (.iconst 1, 1) := by decide +kernel
theorem dLaw_law_745 : decode uLaw.2.1 745 = .ok (.goto 4, 3) := by decide +kernel
theorem dLaw_law_748 : decode uLaw.2.1 748 = .ok (.iconst 0, 1) := by decide +kernel
theorem dLaw_law_749 : decode uLaw.2.1 749 = .ok (.invokevirtual 73, 3) := by decide +kernel
theorem dLaw_law_752 : decode uLaw.2.1 752 = .ok (.aload_n 2, 1) := by decide +kernel
theorem dLaw_law_753 : decode uLaw.2.1 753 = .ok (.aload_n 0, 1) := by decide +kernel
theorem dLaw_law_754 : decode uLaw.2.1 754 = .ok (.iload_n 3, 1) := by decide +kernel
theorem dLaw_law_755 : decode uLaw.2.1 755 = .ok (.iconst 1, 1) := by decide +kernel
theorem dLaw_law_756 : decode uLaw.2.1 756 = .ok (.iadd, 1) := by decide +kernel
theorem dLaw_law_757 : decode uLaw.2.1 757 = .ok (.iaload, 1) := by decide +kernel
theorem dLaw_law_758 : decode uLaw.2.1 758 = .ok (.aload_n 0, 1) := by decide +kernel
theorem dLaw_law_759 : decode uLaw.2.1 759 = .ok (.iload_n 3, 1) := by decide +kernel
theorem dLaw_law_760 : decode uLaw.2.1 760 = .ok (.iconst 2, 1) := by decide +kernel
theorem dLaw_law_761 : decode uLaw.2.1 761 = .ok (.iadd, 1) := by decide +kernel
theorem dLaw_law_762 : decode uLaw.2.1 762 = .ok (.iaload, 1) := by decide +kernel
theorem dLaw_law_763 : decode uLaw.2.1 763 = .ok (.aload_n 0, 1) := by decide +kernel
theorem dLaw_law_764 : decode uLaw.2.1 764 = .ok (.iload_n 3, 1) := by decide +kernel
theorem dLaw_law_765 : decode uLaw.2.1 765 = .ok (.iconst 3, 1) := by decide +kernel
theorem dLaw_law_766 : decode uLaw.2.1 766 = .ok (.iadd, 1) := by decide +kernel
theorem dLaw_law_767 : decode uLaw.2.1 767 = .ok (.iaload, 1) := by decide +kernel
theorem dLaw_law_768 : decode uLaw.2.1 768 = .ok (.ifCond .eq 7, 3) := by decide +kernel
theorem dLaw_law_771 : decode uLaw.2.1 771 = .ok (.iconst 1, 1) := by decide +kernel
theorem dLaw_law_772 : decode uLaw.2.1 772 = .ok (.goto 4, 3) := by decide +kernel
theorem dLaw_law_775 : decode uLaw.2.1 775 = .ok (.iconst 0, 1) := by decide +kernel
theorem dLaw_law_776 : decode uLaw.2.1 776 = .ok (.invokevirtual 77, 3) := by decide +kernel
theorem dLaw_law_779 : decode uLaw.2.1 779 = .ok (.if_icmp .eq 215, 3) := by decide +kernel
theorem dLaw_law_782 : decode uLaw.2.1 782 = .ok (.iconst 0, 1) := by decide +kernel
theorem dLaw_law_783 : decode uLaw.2.1 783 = .ok (.ireturn, 1) := by decide +kernel
theorem dLaw_law_784 : decode uLaw.2.1 784 = .ok (.aload_n 1, 1) := by decide +kernel
theorem dLaw_law_785 : decode uLaw.2.1 785 = .ok (.aload_n 0, 1) := by decide +kernel
theorem dLaw_law_786 : decode uLaw.2.1 786 = .ok (.iload_n 3, 1) := by decide +kernel
theorem dLaw_law_787 : decode uLaw.2.1 787 = .ok (.iconst 1, 1) := by decide +kernel
theorem dLaw_law_788 : decode uLaw.2.1 788 = .ok (.iadd, 1) := by decide +kernel
theorem dLaw_law_789 : decode uLaw.2.1 789 = .ok (.iaload, 1) := by decide +kernel
theorem dLaw_law_790 : decode uLaw.2.1 790 = .ok (.aload_n 0, 1) := by decide +kernel
theorem dLaw_law_791 : decode uLaw.2.1 791 = .ok (.iload_n 3, 1) := by decide +kernel
theorem dLaw_law_792 : decode uLaw.2.1 792 = .ok (.iconst 2, 1) := by decide +kernel
theorem dLaw_law_793 : decode uLaw.2.1 793 = .ok (.iadd, 1) := by decide +kernel
theorem dLaw_law_794 : decode uLaw.2.1 794 = .ok (.iaload, 1) := by decide +kernel
theorem dLaw_law_795 : decode uLaw.2.1 795 = .ok (.aload_n 0, 1) := by decide +kernel
theorem dLaw_law_796 : decode uLaw.2.1 796 = .ok (.iload_n 3, 1) := by decide +kernel
theorem dLaw_law_797 : decode uLaw.2.1 797 = .ok (.iconst 3, 1) := by decide +kernel
theorem dLaw_law_798 : decode uLaw.2.1 798 = .ok (.iadd, 1) := by decide +kernel
theorem dLaw_law_799 : decode uLaw.2.1 799 = .ok (.iaload, 1) := by decide +kernel
theorem dLaw_law_800 : decode uLaw.2.1 800 = .ok (.ifCond .eq 7, 3) := by decide +kernel
theorem dLaw_law_803 : decode uLaw.2.1 803 = .ok (.iconst 1, 1) := by decide +kernel
theorem dLaw_law_804 : decode uLaw.2.1 804 = .ok (.goto 4, 3) := by decide +kernel
theorem dLaw_law_807 : decode uLaw.2.1 807 = .ok (.iconst 0, 1) := by decide +kernel
theorem dLaw_law_808 : decode uLaw.2.1 808 = .ok (.invokevirtual 78, 3) := by decide +kernel
theorem dLaw_law_811 : decode uLaw.2.1 811 = .ok (.aload_n 2, 1) := by decide +kernel
theorem dLaw_law_812 : decode uLaw.2.1 812 = .ok (.aload_n 0, 1) := by decide +kernel
theorem dLaw_law_813 : decode uLaw.2.1 813 = .ok (.iload_n 3, 1) := by decide +kernel
theorem dLaw_law_814 : decode uLaw.2.1 814 = .ok (.iconst 1, 1) := by decide +kernel
theorem dLaw_law_815 : decode uLaw.2.1 815 = .ok (.iadd, 1) := by decide +kernel
theorem dLaw_law_816 : decode uLaw.2.1 816 = .ok (.iaload, 1) := by decide +kernel
theorem dLaw_law_817 : decode uLaw.2.1 817 = .ok (.aload_n 0, 1) := by decide +kernel
theorem dLaw_law_818 : decode uLaw.2.1 818 = .ok (.iload_n 3, 1) := by decide +kernel
theorem dLaw_law_819 : decode uLaw.2.1 819 = .ok (.iconst 2, 1) := by decide +kernel
theorem dLaw_law_820 : decode uLaw.2.1 820 = .ok (.iadd, 1) := by decide +kernel
theorem dLaw_law_821 : decode uLaw.2.1 821 = .ok (.iaload, 1) := by decide +kernel
theorem dLaw_law_822 : decode uLaw.2.1 822 = .ok (.aload_n 0, 1) := by decide +kernel
theorem dLaw_law_823 : decode uLaw.2.1 823 = .ok (.iload_n 3, 1) := by decide +kernel
theorem dLaw_law_824 : decode uLaw.2.1 824 = .ok (.iconst 3, 1) := by decide +kernel
theorem dLaw_law_825 : decode uLaw.2.1 825 = .ok (.iadd, 1) := by decide +kernel
theorem dLaw_law_826 : decode uLaw.2.1 826 = .ok (.iaload, 1) := by decide +kernel
theorem dLaw_law_827 : decode uLaw.2.1 827 = .ok (.ifCond .eq 7, 3) := by decide +kernel
theorem dLaw_law_830 : decode uLaw.2.1 830 = .ok (.iconst 1, 1) := by decide +kernel
theorem dLaw_law_831 : decode uLaw.2.1 831 = .ok (.goto 4, 3) := by decide +kernel
theorem dLaw_law_834 : decode uLaw.2.1 834 = .ok (.iconst 0, 1) := by decide +kernel
theorem dLaw_law_835 : decode uLaw.2.1 835 = .ok (.invokevirtual 81, 3) := by decide +kernel
theorem dLaw_law_838 : decode uLaw.2.1 838 = .ok (.if_icmp .eq 156, 3) := by decide +kernel
theorem dLaw_law_841 : decode uLaw.2.1 841 = .ok (.iconst 0, 1) := by decide +kernel
theorem dLaw_law_842 : decode uLaw.2.1 842 = .ok (.ireturn, 1) := by decide +kernel
theorem dLaw_law_843 : decode uLaw.2.1 843 = .ok (.aload_n 1, 1) := by decide +kernel
theorem dLaw_law_844 : decode uLaw.2.1 844 = .ok (.aload_n 0, 1) := by decide +kernel
theorem dLaw_law_845 : decode uLaw.2.1 845 = .ok (.iload_n 3, 1) := by decide +kernel
theorem dLaw_law_846 : decode uLaw.2.1 846 = .ok (.iconst 1, 1) := by decide +kernel
theorem dLaw_law_847 : decode uLaw.2.1 847 = .ok (.iadd, 1) := by decide +kernel
theorem dLaw_law_848 : decode uLaw.2.1 848 = .ok (.iaload, 1) := by decide +kernel
theorem dLaw_law_849 : decode uLaw.2.1 849 = .ok (.aload_n 0, 1) := by decide +kernel
theorem dLaw_law_850 : decode uLaw.2.1 850 = .ok (.iload_n 3, 1) := by decide +kernel
theorem dLaw_law_851 : decode uLaw.2.1 851 = .ok (.iconst 2, 1) := by decide +kernel
theorem dLaw_law_852 : decode uLaw.2.1 852 = .ok (.iadd, 1) := by decide +kernel
theorem dLaw_law_853 : decode uLaw.2.1 853 = .ok (.iaload, 1) := by decide +kernel
theorem dLaw_law_854 : decode uLaw.2.1 854 = .ok (.aload_n 0, 1) := by decide +kernel
theorem dLaw_law_855 : decode uLaw.2.1 855 = .ok (.iload_n 3, 1) := by decide +kernel
theorem dLaw_law_856 : decode uLaw.2.1 856 = .ok (.iconst 3, 1) := by decide +kernel
theorem dLaw_law_857 : decode uLaw.2.1 857 = .ok (.iadd, 1) := by decide +kernel
theorem dLaw_law_858 : decode uLaw.2.1 858 = .ok (.iaload, 1) := by decide +kernel
theorem dLaw_law_859 : decode uLaw.2.1 859 = .ok (.aload_n 0, 1) := by decide +kernel
theorem dLaw_law_860 : decode uLaw.2.1 860 = .ok (.iload_n 3, 1) := by decide +kernel
theorem dLaw_law_861 : decode uLaw.2.1 861 = .ok (.iconst 4, 1) := by decide +kernel
theorem dLaw_law_862 : decode uLaw.2.1 862 = .ok (.iadd, 1) := by decide +kernel
theorem dLaw_law_863 : decode uLaw.2.1 863 = .ok (.iaload, 1) := by decide +kernel
theorem dLaw_law_864 : decode uLaw.2.1 864 = .ok (.ifCond .eq 7, 3) := by decide +kernel
theorem dLaw_law_867 : decode uLaw.2.1 867 = .ok (.iconst 1, 1) := by decide +kernel
theorem dLaw_law_868 : decode uLaw.2.1 868 = .ok (.goto 4, 3) := by decide +kernel
theorem dLaw_law_871 : decode uLaw.2.1 871 = .ok (.iconst 0, 1) := by decide +kernel
theorem dLaw_law_872 : decode uLaw.2.1 872 = .ok (.invokevirtual 82, 3) := by decide +kernel
theorem dLaw_law_875 : decode uLaw.2.1 875 = .ok (.aload_n 2, 1) := by decide +kernel
theorem dLaw_law_876 : decode uLaw.2.1 876 = .ok (.aload_n 0, 1) := by decide +kernel
theorem dLaw_law_877 : decode uLaw.2.1 877 = .ok (.iload_n 3, 1) := by decide +kernel
theorem dLaw_law_878 : decode uLaw.2.1 878 = .ok (.iconst 1, 1) := by decide +kernel
theorem dLaw_law_879 : decode uLaw.2.1 879 = .ok (.iadd, 1) := by decide +kernel
theorem dLaw_law_880 : decode uLaw.2.1 880 = .ok (.iaload, 1) := by decide +kernel
theorem dLaw_law_881 : decode uLaw.2.1 881 = .ok (.aload_n 0, 1) := by decide +kernel
theorem dLaw_law_882 : decode uLaw.2.1 882 = .ok (.iload_n 3, 1) := by decide +kernel
theorem dLaw_law_883 : decode uLaw.2.1 883 = .ok (.iconst 2, 1) := by decide +kernel
theorem dLaw_law_884 : decode uLaw.2.1 884 = .ok (.iadd, 1) := by decide +kernel
theorem dLaw_law_885 : decode uLaw.2.1 885 = .ok (.iaload, 1) := by decide +kernel
theorem dLaw_law_886 : decode uLaw.2.1 886 = .ok (.aload_n 0, 1) := by decide +kernel
theorem dLaw_law_887 : decode uLaw.2.1 887 = .ok (.iload_n 3, 1) := by decide +kernel
theorem dLaw_law_888 : decode uLaw.2.1 888 = .ok (.iconst 3, 1) := by decide +kernel
theorem dLaw_law_889 : decode uLaw.2.1 889 = .ok (.iadd, 1) := by decide +kernel
theorem dLaw_law_890 : decode uLaw.2.1 890 = .ok (.iaload, 1) := by decide +kernel
theorem dLaw_law_891 : decode uLaw.2.1 891 = .ok (.aload_n 0, 1) := by decide +kernel
theorem dLaw_law_892 : decode uLaw.2.1 892 = .ok (.iload_n 3, 1) := by decide +kernel
theorem dLaw_law_893 : decode uLaw.2.1 893 = .ok (.iconst 4, 1) := by decide +kernel
theorem dLaw_law_894 : decode uLaw.2.1 894 = .ok (.iadd, 1) := by decide +kernel
theorem dLaw_law_895 : decode uLaw.2.1 895 = .ok (.iaload, 1) := by decide +kernel
theorem dLaw_law_896 : decode uLaw.2.1 896 = .ok (.ifCond .eq 7, 3) := by decide +kernel
theorem dLaw_law_899 : decode uLaw.2.1 899 = .ok (.iconst 1, 1) := by decide +kernel
theorem dLaw_law_900 : decode uLaw.2.1 900 = .ok (.goto 4, 3) := by decide +kernel
theorem dLaw_law_903 : decode uLaw.2.1 903 = .ok (.iconst 0, 1) := by decide +kernel
theorem dLaw_law_904 : decode uLaw.2.1 904 = .ok (.invokevirtual 85, 3) := by decide +kernel
theorem dLaw_law_907 : decode uLaw.2.1 907 = .ok (.if_icmp .eq 87, 3) := by decide +kernel
theorem dLaw_law_910 : decode uLaw.2.1 910 = .ok (.iconst 0, 1) := by decide +kernel
theorem dLaw_law_911 : decode uLaw.2.1 911 = .ok (.ireturn, 1) := by decide +kernel
theorem dLaw_law_912 : decode uLaw.2.1 912 = .ok (.aload_n 1, 1) := by decide +kernel
theorem dLaw_law_913 : decode uLaw.2.1 913 = .ok (.aload_n 0, 1) := by decide +kernel
theorem dLaw_law_914 : decode uLaw.2.1 914 = .ok (.iload_n 3, 1) := by decide +kernel
theorem dLaw_law_915 : decode uLaw.2.1 915 = .ok (.iconst 1, 1) := by decide +kernel
theorem dLaw_law_916 : decode uLaw.2.1 916 = .ok (.iadd, 1) := by decide +kernel
theorem dLaw_law_917 : decode uLaw.2.1 917 = .ok (.iaload, 1) := by decide +kernel
theorem dLaw_law_918 : decode uLaw.2.1 918 = .ok (.aload_n 0, 1) := by decide +kernel
theorem dLaw_law_919 : decode uLaw.2.1 919 = .ok (.iload_n 3, 1) := by decide +kernel
theorem dLaw_law_920 : decode uLaw.2.1 920 = .ok (.iconst 2, 1) := by decide +kernel
theorem dLaw_law_921 : decode uLaw.2.1 921 = .ok (.iadd, 1) := by decide +kernel
theorem dLaw_law_922 : decode uLaw.2.1 922 = .ok (.iaload, 1) := by decide +kernel
theorem dLaw_law_923 : decode uLaw.2.1 923 = .ok (.ifCond .eq 7, 3) := by decide +kernel
theorem dLaw_law_926 : decode uLaw.2.1 926 = .ok (.iconst 1, 1) := by decide +kernel
theorem dLaw_law_927 : decode uLaw.2.1 927 = .ok (.goto 4, 3) := by decide +kernel
theorem dLaw_law_930 : decode uLaw.2.1 930 = .ok (.iconst 0, 1) := by decide +kernel
theorem dLaw_law_931 : decode uLaw.2.1 931 = .ok (.aload_n 0, 1) := by decide +kernel
theorem dLaw_law_932 : decode uLaw.2.1 932 = .ok (.iload_n 3, 1) := by decide +kernel
theorem dLaw_law_933 : decode uLaw.2.1 933 = .ok (.iconst 3, 1) := by decide +kernel
theorem dLaw_law_934 : decode uLaw.2.1 934 = .ok (.iadd, 1) := by decide +kernel
theorem dLaw_law_935 : decode uLaw.2.1 935 = .ok (.iaload, 1) := by decide +kernel
theorem dLaw_law_936 : decode uLaw.2.1 936 = .ok (.invokevirtual 86, 3) := by decide +kernel
theorem dLaw_law_939 : decode uLaw.2.1 939 = .ok (.aload_n 2, 1) := by decide +kernel
theorem dLaw_law_940 : decode uLaw.2.1 940 = .ok (.aload_n 0, 1) := by decide +kernel
theorem dLaw_law_941 : decode uLaw.2.1 941 = .ok (.iload_n 3, 1) := by decide +kernel
theorem dLaw_law_942 : decode uLaw.2.1 942 = .ok (.iconst 1, 1) := by decide +kernel
theorem dLaw_law_943 : decode uLaw.2.1 943 = .ok (.iadd, 1) := by decide +kernel
theorem dLaw_law_944 : decode uLaw.2.1 944 = .ok (.iaload, 1) := by decide +kernel
theorem dLaw_law_945 : decode uLaw.2.1 945 = .ok (.aload_n 0, 1) := by decide +kernel
theorem dLaw_law_946 : decode uLaw.2.1 946 = .ok (.iload_n 3, 1) := by decide +kernel
theorem dLaw_law_947 : decode uLaw.2.1 947 = .ok (.iconst 2, 1) := by decide +kernel
theorem dLaw_law_948 : decode uLaw.2.1 948 = .ok (.iadd, 1) := by decide +kernel
theorem dLaw_law_949 : decode uLaw.2.1 949 = .ok (.iaload, 1) := by decide +kernel
theorem dLaw_law_950 : decode uLaw.2.1 950 = .ok (.ifCond .eq 7, 3) := by decide +kernel
theorem dLaw_law_953 : decode uLaw.2.1 953 = .ok (.iconst 1, 1) := by decide +kernel
theorem dLaw_law_954 : decode uLaw.2.1 954 = .ok (.goto 4, 3) := by decide +kernel
theorem dLaw_law_957 : decode uLaw.2.1 957 = .ok (.iconst 0, 1) := by decide +kernel
theorem dLaw_law_958 : decode uLaw.2.1 958 = .ok (.aload_n 0, 1) := by decide +kernel
theorem dLaw_law_959 : decode uLaw.2.1 959 = .ok (.iload_n 3, 1) := by decide +kernel
theorem dLaw_law_960 : decode uLaw.2.1 960 = .ok (.iconst 3, 1) := by decide +kernel
theorem dLaw_law_961 : decode uLaw.2.1 961 = .ok (.iadd, 1) := by decide +kernel
theorem dLaw_law_962 : decode uLaw.2.1 962 = .ok (.iaload, 1) := by decide +kernel
theorem dLaw_law_963 : decode uLaw.2.1 963 = .ok (.invokevirtual 90, 3) := by decide +kernel
theorem dLaw_law_966 : decode uLaw.2.1 966 = .ok (.if_icmp .eq 28, 3) := by decide +kernel
theorem dLaw_law_969 : decode uLaw.2.1 969 = .ok (.iconst 0, 1) := by decide +kernel
theorem dLaw_law_970 : decode uLaw.2.1 970 = .ok (.ireturn, 1) := by decide +kernel
theorem dLaw_law_971 : decode uLaw.2.1 971 = .ok (.aload_n 1, 1) := by decide +kernel
theorem dLaw_law_972 : decode uLaw.2.1 972 = .ok (.aload_n 0, 1) := by decide +kernel
theorem dLaw_law_973 : decode uLaw.2.1 973 = .ok (.iload_n 3, 1) := by decide +kernel
theorem dLaw_law_974 : decode uLaw.2.1 974 = .ok (.iconst 1, 1) := by decide +kernel
theorem dLaw_law_975 : decode uLaw.2.1 975 = .ok (.iadd, 1) := by decide +kernel
theorem dLaw_law_976 : decode uLaw.2.1 976 = .ok (.iaload, 1) := by decide +kernel
theorem dLaw_law_977 : decode uLaw.2.1 977 = .ok (.invokevirtual 91, 3) := by decide +kernel
theorem dLaw_law_980 : decode uLaw.2.1 980 = .ok (.aload_n 2, 1) := by decide +kernel
theorem dLaw_law_981 : decode uLaw.2.1 981 = .ok (.aload_n 0, 1) := by decide +kernel
theorem dLaw_law_982 : decode uLaw.2.1 982 = .ok (.iload_n 3, 1) := by decide +kernel
theorem dLaw_law_983 : decode uLaw.2.1 983 = .ok (.iconst 1, 1) := by decide +kernel
theorem dLaw_law_984 : decode uLaw.2.1 984 = .ok (.iadd, 1) := by decide +kernel
theorem dLaw_law_985 : decode uLaw.2.1 985 = .ok (.iaload, 1) := by decide +kernel
theorem dLaw_law_986 : decode uLaw.2.1 986 = .ok (.invokevirtual 94, 3) := by decide +kernel
theorem dLaw_law_989 : decode uLaw.2.1 989 = .ok (.if_icmp .eq 5, 3) := by decide +kernel
theorem dLaw_law_992 : decode uLaw.2.1 992 = .ok (.iconst 0, 1) := by decide +kernel
theorem dLaw_law_993 : decode uLaw.2.1 993 = .ok (.ireturn, 1) := by decide +kernel
theorem dLaw_law_994 : decode uLaw.2.1 994 = .ok (.iinc 3 7, 3) := by decide +kernel
theorem dLaw_law_997 : decode uLaw.2.1 997 = .ok (.goto (-979), 3) := by decide +kernel
theorem dLaw_law_1000 : decode uLaw.2.1 1000 = .ok (.iconst 1, 1) := by decide +kernel
theorem dLaw_law_1001 : decode uLaw.2.1 1001 = .ok (.ireturn, 1) := by decide +kernel
theorem cs_Law_13 : cV "InterleavedLinkLaw" 13 uLink_header 4 := ⟨⟨Or.inl (gW_in 365 (by decide +kernel) rfl), (gW_in 64 (by decide +kernel) rfl), (gW_in 368 (by decide +kernel) rfl), ⟨by decide, by decide⟩, by decide +kernel⟩, (gW_in 366 (by decide +kernel) rfl), (gW_in 367 (by decide +kernel) rfl)⟩
theorem cs_Law_17 : cV "InterleavedLinkLaw" 17 uMod_header 4 := ⟨⟨Or.inl (gW_in 1174 (by decide +kernel) rfl), (gW_in 74 (by decide +kernel) rfl), (gW_in 1177 (by decide +kernel) rfl), ⟨by decide, by decide⟩, by decide +kernel⟩, (gW_in 1175 (by decide +kernel) rfl), (gW_in 1176 (by decide +kernel) rfl)⟩
theorem cs_Law_18 : cV "InterleavedLinkLaw" 18 uLink_request 1 := ⟨⟨Or.inl (gW_in 384 (by decide +kernel) rfl), (gW_in 64 (by decide +kernel) rfl), (gW_in 387 (by decide +kernel) rfl), ⟨by decide, by decide⟩, by decide +kernel⟩, (gW_in 385 (by decide +kernel) rfl), (gW_in 386 (by decide +kernel) rfl)⟩
theorem cs_Law_22 : cV "InterleavedLinkLaw" 22 uMod_request 1 := ⟨⟨Or.inl (gW_in 1182 (by decide +kernel) rfl), (gW_in 74 (by decide +kernel) rfl), (gW_in 1185 (by decide +kernel) rfl), ⟨by decide, by decide⟩, by decide +kernel⟩, (gW_in 1183 (by decide +kernel) rfl), (gW_in 1184 (by decide +kernel) rfl)⟩
theorem cs_Law_23 : cV "InterleavedLinkLaw" 23 uLink_respond 2 := ⟨⟨Or.inl (gW_in 556 (by decide +kernel) rfl), (gW_in 64 (by decide +kernel) rfl), (gW_in 559 (by decide +kernel) rfl), ⟨by decide, by decide⟩, by decide +kernel⟩, (gW_in 557 (by decide +kernel) rfl), (gW_in 558 (by decide +kernel) rfl)⟩
theorem cs_Law_27 : cV "InterleavedLinkLaw" 27 uMod_respond 2 := ⟨⟨Or.inl (gW_in 1202 (by decide +kernel) rfl), (gW_in 74 (by decide +kernel) rfl), (gW_in 1205 (by decide +kernel) rfl), ⟨by decide, by decide⟩, by decide +kernel⟩, (gW_in 1203 (by decide +kernel) rfl), (gW_in 1204 (by decide +kernel) rfl)⟩
theorem lc_Law_28 : Cond.constantLong "InterleavedLinkLaw" 28 4294967295 ∈ gW := gW_in 1272 (by decide +kernel) rfl
theorem cs_Law_30 : cV "InterleavedLinkLaw" 30 uLink_write 5 := ⟨⟨Or.inl (gW_in 569 (by decide +kernel) rfl), (gW_in 64 (by decide +kernel) rfl), (gW_in 572 (by decide +kernel) rfl), ⟨by decide, by decide⟩, by decide +kernel⟩, (gW_in 570 (by decide +kernel) rfl), (gW_in 571 (by decide +kernel) rfl)⟩
theorem cs_Law_34 : cV "InterleavedLinkLaw" 34 uMod_write 5 := ⟨⟨Or.inl (gW_in 1206 (by decide +kernel) rfl), (gW_in 74 (by decide +kernel) rfl), (gW_in 1209 (by decide +kernel) rfl), ⟨by decide, by decide⟩, by decide +kernel⟩, (gW_in 1207 (by decide +kernel) rfl), (gW_in 1208 (by decide +kernel) rfl)⟩
theorem cs_Law_35 : cV "InterleavedLinkLaw" 35 uLink_pump 2 := ⟨⟨Or.inl (gW_in 577 (by decide +kernel) rfl), (gW_in 64 (by decide +kernel) rfl), (gW_in 580 (by decide +kernel) rfl), ⟨by decide, by decide⟩, by decide +kernel⟩, (gW_in 578 (by decide +kernel) rfl), (gW_in 579 (by decide +kernel) rfl)⟩
theorem cs_Law_39 : cV "InterleavedLinkLaw" 39 uMod_pump 2 := ⟨⟨Or.inl (gW_in 1210 (by decide +kernel) rfl), (gW_in 74 (by decide +kernel) rfl), (gW_in 1213 (by decide +kernel) rfl), ⟨by decide, by decide⟩, by decide +kernel⟩, (gW_in 1211 (by decide +kernel) rfl), (gW_in 1212 (by decide +kernel) rfl)⟩
theorem cs_Law_40 : cV "InterleavedLinkLaw" 40 uLink_read 3 := ⟨⟨Or.inl (gW_in 628 (by decide +kernel) rfl), (gW_in 64 (by decide +kernel) rfl), (gW_in 631 (by decide +kernel) rfl), ⟨by decide, by decide⟩, by decide +kernel⟩, (gW_in 629 (by decide +kernel) rfl), (gW_in 630 (by decide +kernel) rfl)⟩
theorem cs_Law_44 : cV "InterleavedLinkLaw" 44 uMod_read 3 := ⟨⟨Or.inl (gW_in 1222 (by decide +kernel) rfl), (gW_in 74 (by decide +kernel) rfl), (gW_in 1225 (by decide +kernel) rfl), ⟨by decide, by decide⟩, by decide +kernel⟩, (gW_in 1223 (by decide +kernel) rfl), (gW_in 1224 (by decide +kernel) rfl)⟩
theorem cs_Law_45 : cV "InterleavedLinkLaw" 45 uLink_reset 3 := ⟨⟨Or.inl (gW_in 649 (by decide +kernel) rfl), (gW_in 64 (by decide +kernel) rfl), (gW_in 652 (by decide +kernel) rfl), ⟨by decide, by decide⟩, by decide +kernel⟩, (gW_in 650 (by decide +kernel) rfl), (gW_in 651 (by decide +kernel) rfl)⟩
theorem cs_Law_49 : cV "InterleavedLinkLaw" 49 uMod_reset 3 := ⟨⟨Or.inl (gW_in 1228 (by decide +kernel) rfl), (gW_in 74 (by decide +kernel) rfl), (gW_in 1231 (by decide +kernel) rfl), ⟨by decide, by decide⟩, by decide +kernel⟩, (gW_in 1229 (by decide +kernel) rfl), (gW_in 1230 (by decide +kernel) rfl)⟩
theorem cs_Law_50 : cV "InterleavedLinkLaw" 50 uLink_setting 3 := ⟨⟨Or.inl (gW_in 669 (by decide +kernel) rfl), (gW_in 64 (by decide +kernel) rfl), (gW_in 672 (by decide +kernel) rfl), ⟨by decide, by decide⟩, by decide +kernel⟩, (gW_in 670 (by decide +kernel) rfl), (gW_in 671 (by decide +kernel) rfl)⟩
theorem cs_Law_53 : cV "InterleavedLinkLaw" 53 uMod_setting 3 := ⟨⟨Or.inl (gW_in 1232 (by decide +kernel) rfl), (gW_in 74 (by decide +kernel) rfl), (gW_in 1235 (by decide +kernel) rfl), ⟨by decide, by decide⟩, by decide +kernel⟩, (gW_in 1233 (by decide +kernel) rfl), (gW_in 1234 (by decide +kernel) rfl)⟩
theorem cs_Law_54 : cV "InterleavedLinkLaw" 54 uLink_deliver 1 := ⟨⟨Or.inl (gW_in 687 (by decide +kernel) rfl), (gW_in 64 (by decide +kernel) rfl), (gW_in 690 (by decide +kernel) rfl), ⟨by decide, by decide⟩, by decide +kernel⟩, (gW_in 688 (by decide +kernel) rfl), (gW_in 689 (by decide +kernel) rfl)⟩
theorem cs_Law_58 : cV "InterleavedLinkLaw" 58 uMod_deliver 1 := ⟨⟨Or.inl (gW_in 1031 (by decide +kernel) rfl), (gW_in 74 (by decide +kernel) rfl), (gW_in 1034 (by decide +kernel) rfl), ⟨by decide, by decide⟩, by decide +kernel⟩, (gW_in 1032 (by decide +kernel) rfl), (gW_in 1033 (by decide +kernel) rfl)⟩
theorem cs_Law_59 : cV "InterleavedLinkLaw" 59 uLink_inject 5 := ⟨⟨Or.inl (gW_in 804 (by decide +kernel) rfl), (gW_in 64 (by decide +kernel) rfl), (gW_in 807 (by decide +kernel) rfl), ⟨by decide, by decide⟩, by decide +kernel⟩, (gW_in 805 (by decide +kernel) rfl), (gW_in 806 (by decide +kernel) rfl)⟩
theorem cs_Law_63 : cV "InterleavedLinkLaw" 63 uMod_inject 5 := ⟨⟨Or.inl (gW_in 1236 (by decide +kernel) rfl), (gW_in 74 (by decide +kernel) rfl), (gW_in 1239 (by decide +kernel) rfl), ⟨by decide, by decide⟩, by decide +kernel⟩, (gW_in 1237 (by decide +kernel) rfl), (gW_in 1238 (by decide +kernel) rfl)⟩
theorem cs_Law_64 : cV "InterleavedLinkLaw" 64 uLink_frame 3 := ⟨⟨Or.inl (gW_in 822 (by decide +kernel) rfl), (gW_in 64 (by decide +kernel) rfl), (gW_in 825 (by decide +kernel) rfl), ⟨by decide, by decide⟩, by decide +kernel⟩, (gW_in 823 (by decide +kernel) rfl), (gW_in 824 (by decide +kernel) rfl)⟩
theorem cs_Law_68 : cV "InterleavedLinkLaw" 68 uMod_frame 3 := ⟨⟨Or.inl (gW_in 1240 (by decide +kernel) rfl), (gW_in 74 (by decide +kernel) rfl), (gW_in 1243 (by decide +kernel) rfl), ⟨by decide, by decide⟩, by decide +kernel⟩, (gW_in 1241 (by decide +kernel) rfl), (gW_in 1242 (by decide +kernel) rfl)⟩
theorem cs_Law_69 : cV "InterleavedLinkLaw" 69 uLink_state 2 := ⟨⟨Or.inl (gW_in 831 (by decide +kernel) rfl), (gW_in 64 (by decide +kernel) rfl), (gW_in 834 (by decide +kernel) rfl), ⟨by decide, by decide⟩, by decide +kernel⟩, (gW_in 832 (by decide +kernel) rfl), (gW_in 833 (by decide +kernel) rfl)⟩
theorem cs_Law_72 : cV "InterleavedLinkLaw" 72 uMod_state 2 := ⟨⟨Or.inl (gW_in 1244 (by decide +kernel) rfl), (gW_in 74 (by decide +kernel) rfl), (gW_in 1247 (by decide +kernel) rfl), ⟨by decide, by decide⟩, by decide +kernel⟩, (gW_in 1245 (by decide +kernel) rfl), (gW_in 1246 (by decide +kernel) rfl)⟩
theorem cs_Law_73 : cV "InterleavedLinkLaw" 73 uLink_window 3 := ⟨⟨Or.inl (gW_in 835 (by decide +kernel) rfl), (gW_in 64 (by decide +kernel) rfl), (gW_in 838 (by decide +kernel) rfl), ⟨by decide, by decide⟩, by decide +kernel⟩, (gW_in 836 (by decide +kernel) rfl), (gW_in 837 (by decide +kernel) rfl)⟩
theorem cs_Law_77 : cV "InterleavedLinkLaw" 77 uMod_window 3 := ⟨⟨Or.inl (gW_in 1248 (by decide +kernel) rfl), (gW_in 74 (by decide +kernel) rfl), (gW_in 1251 (by decide +kernel) rfl), ⟨by decide, by decide⟩, by decide +kernel⟩, (gW_in 1249 (by decide +kernel) rfl), (gW_in 1250 (by decide +kernel) rfl)⟩
theorem cs_Law_78 : cV "InterleavedLinkLaw" 78 uLink_bytes 3 := ⟨⟨Or.inl (gW_in 839 (by decide +kernel) rfl), (gW_in 64 (by decide +kernel) rfl), (gW_in 842 (by decide +kernel) rfl), ⟨by decide, by decide⟩, by decide +kernel⟩, (gW_in 840 (by decide +kernel) rfl), (gW_in 841 (by decide +kernel) rfl)⟩
theorem cs_Law_81 : cV "InterleavedLinkLaw" 81 uMod_bytes 3 := ⟨⟨Or.inl (gW_in 1252 (by decide +kernel) rfl), (gW_in 74 (by decide +kernel) rfl), (gW_in 1255 (by decide +kernel) rfl), ⟨by decide, by decide⟩, by decide +kernel⟩, (gW_in 1253 (by decide +kernel) rfl), (gW_in 1254 (by decide +kernel) rfl)⟩
theorem cs_Law_82 : cV "InterleavedLinkLaw" 82 uLink_field 4 := ⟨⟨Or.inl (gW_in 843 (by decide +kernel) rfl), (gW_in 64 (by decide +kernel) rfl), (gW_in 846 (by decide +kernel) rfl), ⟨by decide, by decide⟩, by decide +kernel⟩, (gW_in 844 (by decide +kernel) rfl), (gW_in 845 (by decide +kernel) rfl)⟩
theorem cs_Law_85 : cV "InterleavedLinkLaw" 85 uMod_field 4 := ⟨⟨Or.inl (gW_in 1260 (by decide +kernel) rfl), (gW_in 74 (by decide +kernel) rfl), (gW_in 1263 (by decide +kernel) rfl), ⟨by decide, by decide⟩, by decide +kernel⟩, (gW_in 1261 (by decide +kernel) rfl), (gW_in 1262 (by decide +kernel) rfl)⟩
theorem cs_Law_86 : cV "InterleavedLinkLaw" 86 uLink_table 3 := ⟨⟨Or.inl (gW_in 847 (by decide +kernel) rfl), (gW_in 64 (by decide +kernel) rfl), (gW_in 850 (by decide +kernel) rfl), ⟨by decide, by decide⟩, by decide +kernel⟩, (gW_in 848 (by decide +kernel) rfl), (gW_in 849 (by decide +kernel) rfl)⟩
theorem cs_Law_90 : cV "InterleavedLinkLaw" 90 uMod_table 3 := ⟨⟨Or.inl (gW_in 1264 (by decide +kernel) rfl), (gW_in 74 (by decide +kernel) rfl), (gW_in 1267 (by decide +kernel) rfl), ⟨by decide, by decide⟩, by decide +kernel⟩, (gW_in 1265 (by decide +kernel) rfl), (gW_in 1266 (by decide +kernel) rfl)⟩
theorem cs_Law_91 : cV "InterleavedLinkLaw" 91 uLink_down 1 := ⟨⟨Or.inl (gW_in 851 (by decide +kernel) rfl), (gW_in 64 (by decide +kernel) rfl), (gW_in 854 (by decide +kernel) rfl), ⟨by decide, by decide⟩, by decide +kernel⟩, (gW_in 852 (by decide +kernel) rfl), (gW_in 853 (by decide +kernel) rfl)⟩
theorem cs_Law_94 : cV "InterleavedLinkLaw" 94 uMod_down 1 := ⟨⟨Or.inl (gW_in 1268 (by decide +kernel) rfl), (gW_in 74 (by decide +kernel) rfl), (gW_in 1271 (by decide +kernel) rfl), ⟨by decide, by decide⟩, by decide +kernel⟩, (gW_in 1269 (by decide +kernel) rfl), (gW_in 1270 (by decide +kernel) rfl)⟩
/-! ===== the law's loop, over a contract for each pair of calls ===== -/
def bz (x : Int32) : Int32 := if x = 0 then 0 else 1
theorem bz_z (x : Int32) : bz x = 0 ∨ bz x = 1 := by unfold bz; split; exact Or.inl rfl; exact Or.inr rfl
theorem g_bz {X : mX} {l : Launch} {u : mU} {rm : Room} {bc bs : Nat} {M : mM} {ls : List (Option Value)} {st : List Value} {Q : Option Value → mM → Prop} (pc A B : Nat) {x : Int32} {o1 o2 : Int} (d1 : decode u.2.1 pc = .ok (.ifCond .eq o1, 3)) (d2 : decode u.2.1 (pc + 3) = .ok (.iconst 1, 1)) (d3 : decode u.2.1 (pc + 4) = .ok (.goto o2, 3)) (d4 : decode u.2.1 A = .ok (.iconst 0, 1)) (t1 : (pc : Int) + o1 = (A : Int)) (t2 : ((pc + 4 : Nat) : Int) + o2 = (B : Int)) (t3 : A + 1 = B)
    (k : G X l u rm bc bs M B ls (.int (bz x) :: st) Q) : G X l u rm bc bs M pc ls (.int x :: st) Q := by
  refine g_if_eq pc A d1 t1 (fun h => ?_) (fun h => ?_)
  · refine g_iconst A 0 d4 rfl ?_
    rw [t3]
    have e : bz x = 0 := if_pos h
    rw [← e]
    exact k
  · refine g_iconst (pc + 3) 1 d2 rfl ?_
    refine g_goto (pc + 4) B d3 t2 ?_
    have e : bz x = 1 := if_neg h
    rw [← e]
    exact k
theorem lg_self (x : Int64) : lg_cmp x x = 0 := by simp [lg_cmp]
set_option maxRecDepth 100000 in
theorem mi_link : (mT mi 3).1 = 0 := by decide +kernel
theorem Shp.link {M : mM} (h : Shp M) : (mT M 3).1 = 0 := by rw [h.2.1 3 (by decide)]; exact mi_link
/-- the class's answer is the reference's, and J holds behind both -/
def Prx (X : mX) (l : Launch) (uC uM : mU) (as : List Value) (M : mM) (J : mM → Prop) : Prop := ∃ rC rM : Room, (rC.frames ≤ 8 ∧ rC.locals ≤ 200 ∧ rC.cells ≤ 40 ∧ rC.slots ≤ 400) ∧ (rM.frames ≤ 8 ∧ rM.locals ≤ 200 ∧ rM.cells = 0 ∧ rM.slots = 0) ∧ Ct X l uC rC (.ref 3 :: as) M (fun r M1 => ∃ v : Int32, r = some (.int v) ∧ Shp M1 ∧ Ct X l uM rM (.ref 169 :: as) M1 (fun r' M2 => r' = some (.int v) ∧ J M2))
def Prl (X : mX) (l : Launch) (uC uM : mU) (as : List Value) (M : mM) (J : mM → Prop) : Prop := ∃ rC rM : Room, (rC.frames ≤ 8 ∧ rC.locals ≤ 200 ∧ rC.cells ≤ 40 ∧ rC.slots ≤ 400) ∧ (rM.frames ≤ 8 ∧ rM.locals ≤ 200 ∧ rM.cells = 0 ∧ rM.slots = 0) ∧ Ct X l uC rC (.ref 3 :: as) M (fun r M1 => ∃ v : Int64, r = some (.long v) ∧ Shp M1 ∧ Ct X l uM rM (.ref 169 :: as) M1 (fun r' M2 => r' = some (.long v) ∧ J M2))
/-- the number that the law makes of two ints of the script -/
def lng (a b : Int32) : Int64 := a.toInt64 <<< ((32 : Int32).toInt64 &&& 63) ||| b.toInt64 &&& 4294967295
set_option maxRecDepth 100000 in
set_option maxHeartbeats 4000000 in
theorem g_law_0 {X : mX} {l : Launch} {M : mM} {i bc bs bc0 bs0 : Nat} {J : mM → Prop} {Q : Option Value → mM → Prop} (hL : xL X 0 ≤ 3584) (hi : i + 6 < xL X 0) (h1 : bc0 + 40 ≤ bc) (h2 : bs0 + 400 ≤ bs) (hS : Shp M) (hp : Prx X l uLink_header uMod_header [.int (xI X 0 (i + 1)), .int (xI X 0 (i + 2)), .int (xI X 0 (i + 3)), .int (bz (xI X 0 (i + 4)))] M J) (ih : ∀ M2, J M2 → G X l uLaw room_1 bc0 bs0 M2 994 [some (.ref 0), some (.ref 3), some (.ref 169), some (.int (nI i))] [] Q) : G X l uLaw room_1 bc bs M 116 [some (.ref 0), some (.ref 3), some (.ref 169), some (.int (nI i))] [] Q := by
  obtain ⟨rC, rM, ⟨c1, c2, c3, c4⟩, ⟨m1, m2, m3, m4⟩, hC⟩ := hp
  refine g_aload_n 116 dLaw_law_116 rfl ?_
  refine g_aload_n 117 dLaw_law_117 rfl ?_
  refine g_iload_n 118 dLaw_law_118 rfl ?_
  refine g_iconst 119 (nI 1) dLaw_law_119 rfl ?_
  refine g_iaddN 120 dLaw_law_120 ?_
  refine g_oaldN 121 (by decide) dLaw_law_121 (by omega) (by omega) ?_
  refine g_aload_n 122 dLaw_law_122 rfl ?_
  refine g_iload_n 123 dLaw_law_123 rfl ?_
  refine g_iconst 124 (nI 2) dLaw_law_124 rfl ?_
  refine g_iaddN 125 dLaw_law_125 ?_
  refine g_oaldN 126 (by decide) dLaw_law_126 (by omega) (by omega) ?_
  refine g_aload_n 127 dLaw_law_127 rfl ?_
  refine g_iload_n 128 dLaw_law_128 rfl ?_
  refine g_iconst 129 (nI 3) dLaw_law_129 rfl ?_
  refine g_iaddN 130 dLaw_law_130 ?_
  refine g_oaldN 131 (by decide) dLaw_law_131 (by omega) (by omega) ?_
  refine g_aload_n 132 dLaw_law_132 rfl ?_
  refine g_iload_n 133 dLaw_law_133 rfl ?_
  refine g_iconst 134 (nI 4) dLaw_law_134 rfl ?_
  refine g_iaddN 135 dLaw_law_135 ?_
  refine g_oaldN 136 (by decide) dLaw_law_136 (by omega) (by omega) ?_
  refine g_bz 137 144 145 dLaw_law_137 dLaw_law_140 dLaw_law_141 dLaw_law_144 rfl rfl rfl ?_
  refine g_callV 145 [_, _, _, _] dLaw_law_145 cs_Law_13 rfl (ci := 0) rfl (by decide) hS.link rfl ⟨by show rC.frames + 1 ≤ 10; omega, by show 8 + (6 + 11) + rC.locals ≤ 362; omega⟩ (Nat.le_of_ble_eq_true rfl) hC (by omega) (by omega) ?_
  rintro _ M1 ⟨v, rfl, hS1, hM⟩
  refine g_aload_n 148 dLaw_law_148 rfl ?_
  refine g_aload_n 149 dLaw_law_149 rfl ?_
  refine g_iload_n 150 dLaw_law_150 rfl ?_
  refine g_iconst 151 (nI 1) dLaw_law_151 rfl ?_
  refine g_iaddN 152 dLaw_law_152 ?_
  refine g_oaldN 153 (by decide) dLaw_law_153 (by omega) (by omega) ?_
  refine g_aload_n 154 dLaw_law_154 rfl ?_
  refine g_iload_n 155 dLaw_law_155 rfl ?_
  refine g_iconst 156 (nI 2) dLaw_law_156 rfl ?_
  refine g_iaddN 157 dLaw_law_157 ?_
  refine g_oaldN 158 (by decide) dLaw_law_158 (by omega) (by omega) ?_
  refine g_aload_n 159 dLaw_law_159 rfl ?_
  refine g_iload_n 160 dLaw_law_160 rfl ?_
  refine g_iconst 161 (nI 3) dLaw_law_161 rfl ?_
  refine g_iaddN 162 dLaw_law_162 ?_
  refine g_oaldN 163 (by decide) dLaw_law_163 (by omega) (by omega) ?_
  refine g_aload_n 164 dLaw_law_164 rfl ?_
  refine g_iload_n 165 dLaw_law_165 rfl ?_
  refine g_iconst 166 (nI 4) dLaw_law_166 rfl ?_
  refine g_iaddN 167 dLaw_law_167 ?_
  refine g_oaldN 168 (by decide) dLaw_law_168 (by omega) (by omega) ?_
  refine g_bz 169 176 177 dLaw_law_169 dLaw_law_172 dLaw_law_173 dLaw_law_176 rfl rfl rfl ?_
  refine g_callV 177 [_, _, _, _] dLaw_law_177 cs_Law_17 rfl (ci := 10) rfl (by decide) hS1.mod rfl ⟨by show rM.frames + 1 ≤ 10; omega, by show 8 + (6 + 11) + rM.locals ≤ 362; omega⟩ (Nat.le_of_ble_eq_true rfl) hM (by omega) (by omega) ?_
  rintro _ M2 ⟨rfl, hJ⟩
  refine g_icmp_eq 180 994 dLaw_law_180 rfl (fun _ => ?_) (fun h => absurd rfl h)
  exact G.bud bc0 bs0 (by omega) (by omega) (ih M2 hJ)
set_option maxRecDepth 100000 in
set_option maxHeartbeats 4000000 in
theorem g_law_1 {X : mX} {l : Launch} {M : mM} {i bc bs bc0 bs0 : Nat} {J : mM → Prop} {Q : Option Value → mM → Prop} (hL : xL X 0 ≤ 3584) (hi : i + 6 < xL X 0) (h1 : bc0 + 40 ≤ bc) (h2 : bs0 + 400 ≤ bs) (hS : Shp M) (hp : Prx X l uLink_request uMod_request [.int (bz (xI X 0 (i + 1)))] M J) (ih : ∀ M2, J M2 → G X l uLaw room_1 bc0 bs0 M2 994 [some (.ref 0), some (.ref 3), some (.ref 169), some (.int (nI i))] [] Q) : G X l uLaw room_1 bc bs M 185 [some (.ref 0), some (.ref 3), some (.ref 169), some (.int (nI i))] [] Q := by
  obtain ⟨rC, rM, ⟨c1, c2, c3, c4⟩, ⟨m1, m2, m3, m4⟩, hC⟩ := hp
  refine g_aload_n 185 dLaw_law_185 rfl ?_
  refine g_aload_n 186 dLaw_law_186 rfl ?_
  refine g_iload_n 187 dLaw_law_187 rfl ?_
  refine g_iconst 188 (nI 1) dLaw_law_188 rfl ?_
  refine g_iaddN 189 dLaw_law_189 ?_
  refine g_oaldN 190 (by decide) dLaw_law_190 (by omega) (by omega) ?_
  refine g_bz 191 198 199 dLaw_law_191 dLaw_law_194 dLaw_law_195 dLaw_law_198 rfl rfl rfl ?_
  refine g_callV 199 [_] dLaw_law_199 cs_Law_18 rfl (ci := 0) rfl (by decide) hS.link rfl ⟨by show rC.frames + 1 ≤ 10; omega, by show 8 + (3 + 11) + rC.locals ≤ 362; omega⟩ (Nat.le_of_ble_eq_true rfl) hC (by omega) (by omega) ?_
  rintro _ M1 ⟨v, rfl, hS1, hM⟩
  refine g_aload_n 202 dLaw_law_202 rfl ?_
  refine g_aload_n 203 dLaw_law_203 rfl ?_
  refine g_iload_n 204 dLaw_law_204 rfl ?_
  refine g_iconst 205 (nI 1) dLaw_law_205 rfl ?_
  refine g_iaddN 206 dLaw_law_206 ?_
  refine g_oaldN 207 (by decide) dLaw_law_207 (by omega) (by omega) ?_
  refine g_bz 208 215 216 dLaw_law_208 dLaw_law_211 dLaw_law_212 dLaw_law_215 rfl rfl rfl ?_
  refine g_callV 216 [_] dLaw_law_216 cs_Law_22 rfl (ci := 10) rfl (by decide) hS1.mod rfl ⟨by show rM.frames + 1 ≤ 10; omega, by show 8 + (3 + 11) + rM.locals ≤ 362; omega⟩ (Nat.le_of_ble_eq_true rfl) hM (by omega) (by omega) ?_
  rintro _ M2 ⟨rfl, hJ⟩
  refine g_icmp_eq 219 994 dLaw_law_219 rfl (fun _ => ?_) (fun h => absurd rfl h)
  exact G.bud bc0 bs0 (by omega) (by omega) (ih M2 hJ)
set_option maxRecDepth 100000 in
set_option maxHeartbeats 4000000 in
theorem g_law_2 {X : mX} {l : Launch} {M : mM} {i bc bs bc0 bs0 : Nat} {J : mM → Prop} {Q : Option Value → mM → Prop} (hL : xL X 0 ≤ 3584) (hi : i + 6 < xL X 0) (h1 : bc0 + 40 ≤ bc) (h2 : bs0 + 400 ≤ bs) (hS : Shp M) (hp : Prx X l uLink_respond uMod_respond [.int (xI X 0 (i + 1)), .int (bz (xI X 0 (i + 2)))] M J) (ih : ∀ M2, J M2 → G X l uLaw room_1 bc0 bs0 M2 994 [some (.ref 0), some (.ref 3), some (.ref 169), some (.int (nI i))] [] Q) : G X l uLaw room_1 bc bs M 224 [some (.ref 0), some (.ref 3), some (.ref 169), some (.int (nI i))] [] Q := by
  obtain ⟨rC, rM, ⟨c1, c2, c3, c4⟩, ⟨m1, m2, m3, m4⟩, hC⟩ := hp
  refine g_aload_n 224 dLaw_law_224 rfl ?_
  refine g_aload_n 225 dLaw_law_225 rfl ?_
  refine g_iload_n 226 dLaw_law_226 rfl ?_
  refine g_iconst 227 (nI 1) dLaw_law_227 rfl ?_
  refine g_iaddN 228 dLaw_law_228 ?_
  refine g_oaldN 229 (by decide) dLaw_law_229 (by omega) (by omega) ?_
  refine g_aload_n 230 dLaw_law_230 rfl ?_
  refine g_iload_n 231 dLaw_law_231 rfl ?_
  refine g_iconst 232 (nI 2) dLaw_law_232 rfl ?_
  refine g_iaddN 233 dLaw_law_233 ?_
  refine g_oaldN 234 (by decide) dLaw_law_234 (by omega) (by omega) ?_
  refine g_bz 235 242 243 dLaw_law_235 dLaw_law_238 dLaw_law_239 dLaw_law_242 rfl rfl rfl ?_
  refine g_callV 243 [_, _] dLaw_law_243 cs_Law_23 rfl (ci := 0) rfl (by decide) hS.link rfl ⟨by show rC.frames + 1 ≤ 10; omega, by show 8 + (6 + 11) + rC.locals ≤ 362; omega⟩ (Nat.le_of_ble_eq_true rfl) hC (by omega) (by omega) ?_
  rintro _ M1 ⟨v, rfl, hS1, hM⟩
  refine g_aload_n 246 dLaw_law_246 rfl ?_
  refine g_aload_n 247 dLaw_law_247 rfl ?_
  refine g_iload_n 248 dLaw_law_248 rfl ?_
  refine g_iconst 249 (nI 1) dLaw_law_249 rfl ?_
  refine g_iaddN 250 dLaw_law_250 ?_
  refine g_oaldN 251 (by decide) dLaw_law_251 (by omega) (by omega) ?_
  refine g_aload_n 252 dLaw_law_252 rfl ?_
  refine g_iload_n 253 dLaw_law_253 rfl ?_
  refine g_iconst 254 (nI 2) dLaw_law_254 rfl ?_
  refine g_iaddN 255 dLaw_law_255 ?_
  refine g_oaldN 256 (by decide) dLaw_law_256 (by omega) (by omega) ?_
  refine g_bz 257 264 265 dLaw_law_257 dLaw_law_260 dLaw_law_261 dLaw_law_264 rfl rfl rfl ?_
  refine g_callV 265 [_, _] dLaw_law_265 cs_Law_27 rfl (ci := 10) rfl (by decide) hS1.mod rfl ⟨by show rM.frames + 1 ≤ 10; omega, by show 8 + (6 + 11) + rM.locals ≤ 362; omega⟩ (Nat.le_of_ble_eq_true rfl) hM (by omega) (by omega) ?_
  rintro _ M2 ⟨rfl, hJ⟩
  refine g_icmp_eq 268 994 dLaw_law_268 rfl (fun _ => ?_) (fun h => absurd rfl h)
  exact G.bud bc0 bs0 (by omega) (by omega) (ih M2 hJ)
set_option maxRecDepth 100000 in
set_option maxHeartbeats 4000000 in
theorem g_law_3 {X : mX} {l : Launch} {M : mM} {i bc bs bc0 bs0 : Nat} {J : mM → Prop} {Q : Option Value → mM → Prop} (hL : xL X 0 ≤ 3584) (hi : i + 6 < xL X 0) (h1 : bc0 + 40 ≤ bc) (h2 : bs0 + 400 ≤ bs) (hS : Shp M) (hp : Prx X l uLink_write uMod_write [.int (xI X 0 (i + 1)), .int (xI X 0 (i + 2)), .long (lng (xI X 0 (i + 3)) (xI X 0 (i + 4))), .int (xI X 0 (i + 5)), .int (bz (xI X 0 (i + 6)))] M J) (ih : ∀ M2, J M2 → G X l uLaw room_1 bc0 bs0 M2 994 [some (.ref 0), some (.ref 3), some (.ref 169), some (.int (nI i))] [] Q) : G X l uLaw room_1 bc bs M 273 [some (.ref 0), some (.ref 3), some (.ref 169), some (.int (nI i))] [] Q := by
  obtain ⟨rC, rM, ⟨c1, c2, c3, c4⟩, ⟨m1, m2, m3, m4⟩, hC⟩ := hp
  refine g_aload_n 273 dLaw_law_273 rfl ?_
  refine g_aload_n 274 dLaw_law_274 rfl ?_
  refine g_iload_n 275 dLaw_law_275 rfl ?_
  refine g_iconst 276 (nI 1) dLaw_law_276 rfl ?_
  refine g_iaddN 277 dLaw_law_277 ?_
  refine g_oaldN 278 (by decide) dLaw_law_278 (by omega) (by omega) ?_
  refine g_aload_n 279 dLaw_law_279 rfl ?_
  refine g_iload_n 280 dLaw_law_280 rfl ?_
  refine g_iconst 281 (nI 2) dLaw_law_281 rfl ?_
  refine g_iaddN 282 dLaw_law_282 ?_
  refine g_oaldN 283 (by decide) dLaw_law_283 (by omega) (by omega) ?_
  refine g_aload_n 284 dLaw_law_284 rfl ?_
  refine g_iload_n 285 dLaw_law_285 rfl ?_
  refine g_iconst 286 (nI 3) dLaw_law_286 rfl ?_
  refine g_iaddN 287 dLaw_law_287 ?_
  refine g_oaldN 288 (by decide) dLaw_law_288 (by omega) (by omega) ?_
  refine g_i2l 289 dLaw_law_289 ?_
  refine g_bipush 290 32 dLaw_law_290 rfl ?_
  refine g_lshl 292 dLaw_law_292 ?_
  refine g_aload_n 293 dLaw_law_293 rfl ?_
  refine g_iload_n 294 dLaw_law_294 rfl ?_
  refine g_iconst 295 (nI 4) dLaw_law_295 rfl ?_
  refine g_iaddN 296 dLaw_law_296 ?_
  refine g_oaldN 297 (by decide) dLaw_law_297 (by omega) (by omega) ?_
  refine g_i2l 298 dLaw_law_298 ?_
  refine g_ldc2 299 4294967295 dLaw_law_299 lc_Law_28 ?_
  refine g_land 302 dLaw_law_302 ?_
  refine g_lor 303 dLaw_law_303 ?_
  refine g_aload_n 304 dLaw_law_304 rfl ?_
  refine g_iload_n 305 dLaw_law_305 rfl ?_
  refine g_iconst 306 (nI 5) dLaw_law_306 rfl ?_
  refine g_iaddN 307 dLaw_law_307 ?_
  refine g_oaldN 308 (by decide) dLaw_law_308 (by omega) (by omega) ?_
  refine g_aload_n 309 dLaw_law_309 rfl ?_
  refine g_iload_n 310 dLaw_law_310 rfl ?_
  refine g_bipush 311 (nI 6) dLaw_law_311 rfl ?_
  refine g_iaddN 313 dLaw_law_313 ?_
  refine g_oaldN 314 (by decide) dLaw_law_314 (by omega) (by omega) ?_
  refine g_bz 315 322 323 dLaw_law_315 dLaw_law_318 dLaw_law_319 dLaw_law_322 rfl rfl rfl ?_
  refine g_callV 323 [_, _, _, _, _] dLaw_law_323 cs_Law_30 rfl (ci := 0) rfl (by decide) hS.link rfl ⟨by show rC.frames + 1 ≤ 10; omega, by show 8 + (8 + 11) + rC.locals ≤ 362; omega⟩ (Nat.le_of_ble_eq_true rfl) hC (by omega) (by omega) ?_
  rintro _ M1 ⟨v, rfl, hS1, hM⟩
  refine g_aload_n 326 dLaw_law_326 rfl ?_
  refine g_aload_n 327 dLaw_law_327 rfl ?_
  refine g_iload_n 328 dLaw_law_328 rfl ?_
  refine g_iconst 329 (nI 1) dLaw_law_329 rfl ?_
  refine g_iaddN 330 dLaw_law_330 ?_
  refine g_oaldN 331 (by decide) dLaw_law_331 (by omega) (by omega) ?_
  refine g_aload_n 332 dLaw_law_332 rfl ?_
  refine g_iload_n 333 dLaw_law_333 rfl ?_
  refine g_iconst 334 (nI 2) dLaw_law_334 rfl ?_
  refine g_iaddN 335 dLaw_law_335 ?_
  refine g_oaldN 336 (by decide) dLaw_law_336 (by omega) (by omega) ?_
  refine g_aload_n 337 dLaw_law_337 rfl ?_
  refine g_iload_n 338 dLaw_law_338 rfl ?_
  refine g_iconst 339 (nI 3) dLaw_law_339 rfl ?_
  refine g_iaddN 340 dLaw_law_340 ?_
  refine g_oaldN 341 (by decide) dLaw_law_341 (by omega) (by omega) ?_
  refine g_i2l 342 dLaw_law_342 ?_
  refine g_bipush 343 32 dLaw_law_343 rfl ?_
  refine g_lshl 345 dLaw_law_345 ?_
  refine g_aload_n 346 dLaw_law_346 rfl ?_
  refine g_iload_n 347 dLaw_law_347 rfl ?_
  refine g_iconst 348 (nI 4) dLaw_law_348 rfl ?_
  refine g_iaddN 349 dLaw_law_349 ?_
  refine g_oaldN 350 (by decide) dLaw_law_350 (by omega) (by omega) ?_
  refine g_i2l 351 dLaw_law_351 ?_
  refine g_ldc2 352 4294967295 dLaw_law_352 lc_Law_28 ?_
  refine g_land 355 dLaw_law_355 ?_
  refine g_lor 356 dLaw_law_356 ?_
  refine g_aload_n 357 dLaw_law_357 rfl ?_
  refine g_iload_n 358 dLaw_law_358 rfl ?_
  refine g_iconst 359 (nI 5) dLaw_law_359 rfl ?_
  refine g_iaddN 360 dLaw_law_360 ?_
  refine g_oaldN 361 (by decide) dLaw_law_361 (by omega) (by omega) ?_
  refine g_aload_n 362 dLaw_law_362 rfl ?_
  refine g_iload_n 363 dLaw_law_363 rfl ?_
  refine g_bipush 364 (nI 6) dLaw_law_364 rfl ?_
  refine g_iaddN 366 dLaw_law_366 ?_
  refine g_oaldN 367 (by decide) dLaw_law_367 (by omega) (by omega) ?_
  refine g_bz 368 375 376 dLaw_law_368 dLaw_law_371 dLaw_law_372 dLaw_law_375 rfl rfl rfl ?_
  refine g_callV 376 [_, _, _, _, _] dLaw_law_376 cs_Law_34 rfl (ci := 10) rfl (by decide) hS1.mod rfl ⟨by show rM.frames + 1 ≤ 10; omega, by show 8 + (10 + 11) + rM.locals ≤ 362; omega⟩ (Nat.le_of_ble_eq_true rfl) hM (by omega) (by omega) ?_
  rintro _ M2 ⟨rfl, hJ⟩
  refine g_icmp_eq 379 994 dLaw_law_379 rfl (fun _ => ?_) (fun h => absurd rfl h)
  exact G.bud bc0 bs0 (by omega) (by omega) (ih M2 hJ)
set_option maxRecDepth 100000 in
set_option maxHeartbeats 4000000 in
theorem g_law_4 {X : mX} {l : Launch} {M : mM} {i bc bs bc0 bs0 : Nat} {J : mM → Prop} {Q : Option Value → mM → Prop} (hL : xL X 0 ≤ 3584) (hi : i + 6 < xL X 0) (h1 : bc0 + 40 ≤ bc) (h2 : bs0 + 400 ≤ bs) (hS : Shp M) (hp : Prx X l uLink_pump uMod_pump [.int (xI X 0 (i + 1)), .int (xI X 0 (i + 2))] M J) (ih : ∀ M2, J M2 → G X l uLaw room_1 bc0 bs0 M2 994 [some (.ref 0), some (.ref 3), some (.ref 169), some (.int (nI i))] [] Q) : G X l uLaw room_1 bc bs M 384 [some (.ref 0), some (.ref 3), some (.ref 169), some (.int (nI i))] [] Q := by
  obtain ⟨rC, rM, ⟨c1, c2, c3, c4⟩, ⟨m1, m2, m3, m4⟩, hC⟩ := hp
  refine g_aload_n 384 dLaw_law_384 rfl ?_
  refine g_aload_n 385 dLaw_law_385 rfl ?_
  refine g_iload_n 386 dLaw_law_386 rfl ?_
  refine g_iconst 387 (nI 1) dLaw_law_387 rfl ?_
  refine g_iaddN 388 dLaw_law_388 ?_
  refine g_oaldN 389 (by decide) dLaw_law_389 (by omega) (by omega) ?_
  refine g_aload_n 390 dLaw_law_390 rfl ?_
  refine g_iload_n 391 dLaw_law_391 rfl ?_
  refine g_iconst 392 (nI 2) dLaw_law_392 rfl ?_
  refine g_iaddN 393 dLaw_law_393 ?_
  refine g_oaldN 394 (by decide) dLaw_law_394 (by omega) (by omega) ?_
  refine g_callV 395 [_, _] dLaw_law_395 cs_Law_35 rfl (ci := 0) rfl (by decide) hS.link rfl ⟨by show rC.frames + 1 ≤ 10; omega, by show 8 + (4 + 11) + rC.locals ≤ 362; omega⟩ (Nat.le_of_ble_eq_true rfl) hC (by omega) (by omega) ?_
  rintro _ M1 ⟨v, rfl, hS1, hM⟩
  refine g_aload_n 398 dLaw_law_398 rfl ?_
  refine g_aload_n 399 dLaw_law_399 rfl ?_
  refine g_iload_n 400 dLaw_law_400 rfl ?_
  refine g_iconst 401 (nI 1) dLaw_law_401 rfl ?_
  refine g_iaddN 402 dLaw_law_402 ?_
  refine g_oaldN 403 (by decide) dLaw_law_403 (by omega) (by omega) ?_
  refine g_aload_n 404 dLaw_law_404 rfl ?_
  refine g_iload_n 405 dLaw_law_405 rfl ?_
  refine g_iconst 406 (nI 2) dLaw_law_406 rfl ?_
  refine g_iaddN 407 dLaw_law_407 ?_
  refine g_oaldN 408 (by decide) dLaw_law_408 (by omega) (by omega) ?_
  refine g_callV 409 [_, _] dLaw_law_409 cs_Law_39 rfl (ci := 10) rfl (by decide) hS1.mod rfl ⟨by show rM.frames + 1 ≤ 10; omega, by show 8 + (7 + 11) + rM.locals ≤ 362; omega⟩ (Nat.le_of_ble_eq_true rfl) hM (by omega) (by omega) ?_
  rintro _ M2 ⟨rfl, hJ⟩
  refine g_icmp_eq 412 994 dLaw_law_412 rfl (fun _ => ?_) (fun h => absurd rfl h)
  exact G.bud bc0 bs0 (by omega) (by omega) (ih M2 hJ)
set_option maxRecDepth 100000 in
set_option maxHeartbeats 4000000 in
theorem g_law_5 {X : mX} {l : Launch} {M : mM} {i bc bs bc0 bs0 : Nat} {J : mM → Prop} {Q : Option Value → mM → Prop} (hL : xL X 0 ≤ 3584) (hi : i + 6 < xL X 0) (h1 : bc0 + 40 ≤ bc) (h2 : bs0 + 400 ≤ bs) (hS : Shp M) (hp : Prl X l uLink_read uMod_read [.int (xI X 0 (i + 1)), .int (xI X 0 (i + 2)), .int (xI X 0 (i + 3))] M J) (ih : ∀ M2, J M2 → G X l uLaw room_1 bc0 bs0 M2 994 [some (.ref 0), some (.ref 3), some (.ref 169), some (.int (nI i))] [] Q) : G X l uLaw room_1 bc bs M 417 [some (.ref 0), some (.ref 3), some (.ref 169), some (.int (nI i))] [] Q := by
  obtain ⟨rC, rM, ⟨c1, c2, c3, c4⟩, ⟨m1, m2, m3, m4⟩, hC⟩ := hp
  refine g_aload_n 417 dLaw_law_417 rfl ?_
  refine g_aload_n 418 dLaw_law_418 rfl ?_
  refine g_iload_n 419 dLaw_law_419 rfl ?_
  refine g_iconst 420 (nI 1) dLaw_law_420 rfl ?_
  refine g_iaddN 421 dLaw_law_421 ?_
  refine g_oaldN 422 (by decide) dLaw_law_422 (by omega) (by omega) ?_
  refine g_aload_n 423 dLaw_law_423 rfl ?_
  refine g_iload_n 424 dLaw_law_424 rfl ?_
  refine g_iconst 425 (nI 2) dLaw_law_425 rfl ?_
  refine g_iaddN 426 dLaw_law_426 ?_
  refine g_oaldN 427 (by decide) dLaw_law_427 (by omega) (by omega) ?_
  refine g_aload_n 428 dLaw_law_428 rfl ?_
  refine g_iload_n 429 dLaw_law_429 rfl ?_
  refine g_iconst 430 (nI 3) dLaw_law_430 rfl ?_
  refine g_iaddN 431 dLaw_law_431 ?_
  refine g_oaldN 432 (by decide) dLaw_law_432 (by omega) (by omega) ?_
  refine g_callV 433 [_, _, _] dLaw_law_433 cs_Law_40 rfl (ci := 0) rfl (by decide) hS.link rfl ⟨by show rC.frames + 1 ≤ 10; omega, by show 8 + (6 + 11) + rC.locals ≤ 362; omega⟩ (Nat.le_of_ble_eq_true rfl) hC (by omega) (by omega) ?_
  rintro _ M1 ⟨v, rfl, hS1, hM⟩
  refine g_aload_n 436 dLaw_law_436 rfl ?_
  refine g_aload_n 437 dLaw_law_437 rfl ?_
  refine g_iload_n 438 dLaw_law_438 rfl ?_
  refine g_iconst 439 (nI 1) dLaw_law_439 rfl ?_
  refine g_iaddN 440 dLaw_law_440 ?_
  refine g_oaldN 441 (by decide) dLaw_law_441 (by omega) (by omega) ?_
  refine g_aload_n 442 dLaw_law_442 rfl ?_
  refine g_iload_n 443 dLaw_law_443 rfl ?_
  refine g_iconst 444 (nI 2) dLaw_law_444 rfl ?_
  refine g_iaddN 445 dLaw_law_445 ?_
  refine g_oaldN 446 (by decide) dLaw_law_446 (by omega) (by omega) ?_
  refine g_aload_n 447 dLaw_law_447 rfl ?_
  refine g_iload_n 448 dLaw_law_448 rfl ?_
  refine g_iconst 449 (nI 3) dLaw_law_449 rfl ?_
  refine g_iaddN 450 dLaw_law_450 ?_
  refine g_oaldN 451 (by decide) dLaw_law_451 (by omega) (by omega) ?_
  refine g_callV 452 [_, _, _] dLaw_law_452 cs_Law_44 rfl (ci := 10) rfl (by decide) hS1.mod rfl ⟨by show rM.frames + 1 ≤ 10; omega, by show 8 + (7 + 11) + rM.locals ≤ 362; omega⟩ (Nat.le_of_ble_eq_true rfl) hM (by omega) (by omega) ?_
  rintro _ M2 ⟨rfl, hJ⟩
  refine g_lcmp 455 dLaw_law_455 ?_
  refine g_top 0 (lg_self v) ?_
  refine g_if_eq 456 994 dLaw_law_456 rfl (fun _ => ?_) (fun h => absurd rfl h)
  exact G.bud bc0 bs0 (by omega) (by omega) (ih M2 hJ)
set_option maxRecDepth 100000 in
set_option maxHeartbeats 4000000 in
theorem g_law_6 {X : mX} {l : Launch} {M : mM} {i bc bs bc0 bs0 : Nat} {J : mM → Prop} {Q : Option Value → mM → Prop} (hL : xL X 0 ≤ 3584) (hi : i + 6 < xL X 0) (h1 : bc0 + 40 ≤ bc) (h2 : bs0 + 400 ≤ bs) (hS : Shp M) (hp : Prx X l uLink_reset uMod_reset [.int (xI X 0 (i + 1)), .int (xI X 0 (i + 2)), .int (xI X 0 (i + 3))] M J) (ih : ∀ M2, J M2 → G X l uLaw room_1 bc0 bs0 M2 994 [some (.ref 0), some (.ref 3), some (.ref 169), some (.int (nI i))] [] Q) : G X l uLaw room_1 bc bs M 461 [some (.ref 0), some (.ref 3), some (.ref 169), some (.int (nI i))] [] Q := by
  obtain ⟨rC, rM, ⟨c1, c2, c3, c4⟩, ⟨m1, m2, m3, m4⟩, hC⟩ := hp
  refine g_aload_n 461 dLaw_law_461 rfl ?_
  refine g_aload_n 462 dLaw_law_462 rfl ?_
  refine g_iload_n 463 dLaw_law_463 rfl ?_
  refine g_iconst 464 (nI 1) dLaw_law_464 rfl ?_
  refine g_iaddN 465 dLaw_law_465 ?_
  refine g_oaldN 466 (by decide) dLaw_law_466 (by omega) (by omega) ?_
  refine g_aload_n 467 dLaw_law_467 rfl ?_
  refine g_iload_n 468 dLaw_law_468 rfl ?_
  refine g_iconst 469 (nI 2) dLaw_law_469 rfl ?_
  refine g_iaddN 470 dLaw_law_470 ?_
  refine g_oaldN 471 (by decide) dLaw_law_471 (by omega) (by omega) ?_
  refine g_aload_n 472 dLaw_law_472 rfl ?_
  refine g_iload_n 473 dLaw_law_473 rfl ?_
  refine g_iconst 474 (nI 3) dLaw_law_474 rfl ?_
  refine g_iaddN 475 dLaw_law_475 ?_
  refine g_oaldN 476 (by decide) dLaw_law_476 (by omega) (by omega) ?_
  refine g_callV 477 [_, _, _] dLaw_law_477 cs_Law_45 rfl (ci := 0) rfl (by decide) hS.link rfl ⟨by show rC.frames + 1 ≤ 10; omega, by show 8 + (6 + 11) + rC.locals ≤ 362; omega⟩ (Nat.le_of_ble_eq_true rfl) hC (by omega) (by omega) ?_
  rintro _ M1 ⟨v, rfl, hS1, hM⟩
  refine g_aload_n 480 dLaw_law_480 rfl ?_
  refine g_aload_n 481 dLaw_law_481 rfl ?_
  refine g_iload_n 482 dLaw_law_482 rfl ?_
  refine g_iconst 483 (nI 1) dLaw_law_483 rfl ?_
  refine g_iaddN 484 dLaw_law_484 ?_
  refine g_oaldN 485 (by decide) dLaw_law_485 (by omega) (by omega) ?_
  refine g_aload_n 486 dLaw_law_486 rfl ?_
  refine g_iload_n 487 dLaw_law_487 rfl ?_
  refine g_iconst 488 (nI 2) dLaw_law_488 rfl ?_
  refine g_iaddN 489 dLaw_law_489 ?_
  refine g_oaldN 490 (by decide) dLaw_law_490 (by omega) (by omega) ?_
  refine g_aload_n 491 dLaw_law_491 rfl ?_
  refine g_iload_n 492 dLaw_law_492 rfl ?_
  refine g_iconst 493 (nI 3) dLaw_law_493 rfl ?_
  refine g_iaddN 494 dLaw_law_494 ?_
  refine g_oaldN 495 (by decide) dLaw_law_495 (by omega) (by omega) ?_
  refine g_callV 496 [_, _, _] dLaw_law_496 cs_Law_49 rfl (ci := 10) rfl (by decide) hS1.mod rfl ⟨by show rM.frames + 1 ≤ 10; omega, by show 8 + (4 + 11) + rM.locals ≤ 362; omega⟩ (Nat.le_of_ble_eq_true rfl) hM (by omega) (by omega) ?_
  rintro _ M2 ⟨rfl, hJ⟩
  refine g_icmp_eq 499 994 dLaw_law_499 rfl (fun _ => ?_) (fun h => absurd rfl h)
  exact G.bud bc0 bs0 (by omega) (by omega) (ih M2 hJ)
set_option maxRecDepth 100000 in
set_option maxHeartbeats 4000000 in
theorem g_law_7 {X : mX} {l : Launch} {M : mM} {i bc bs bc0 bs0 : Nat} {J : mM → Prop} {Q : Option Value → mM → Prop} (hL : xL X 0 ≤ 3584) (hi : i + 6 < xL X 0) (h1 : bc0 + 40 ≤ bc) (h2 : bs0 + 400 ≤ bs) (hS : Shp M) (hp : Prx X l uLink_setting uMod_setting [.int (xI X 0 (i + 1)), .int (xI X 0 (i + 2)), .int (xI X 0 (i + 3))] M J) (ih : ∀ M2, J M2 → G X l uLaw room_1 bc0 bs0 M2 994 [some (.ref 0), some (.ref 3), some (.ref 169), some (.int (nI i))] [] Q) : G X l uLaw room_1 bc bs M 504 [some (.ref 0), some (.ref 3), some (.ref 169), some (.int (nI i))] [] Q := by
  obtain ⟨rC, rM, ⟨c1, c2, c3, c4⟩, ⟨m1, m2, m3, m4⟩, hC⟩ := hp
  refine g_aload_n 504 dLaw_law_504 rfl ?_
  refine g_aload_n 505 dLaw_law_505 rfl ?_
  refine g_iload_n 506 dLaw_law_506 rfl ?_
  refine g_iconst 507 (nI 1) dLaw_law_507 rfl ?_
  refine g_iaddN 508 dLaw_law_508 ?_
  refine g_oaldN 509 (by decide) dLaw_law_509 (by omega) (by omega) ?_
  refine g_aload_n 510 dLaw_law_510 rfl ?_
  refine g_iload_n 511 dLaw_law_511 rfl ?_
  refine g_iconst 512 (nI 2) dLaw_law_512 rfl ?_
  refine g_iaddN 513 dLaw_law_513 ?_
  refine g_oaldN 514 (by decide) dLaw_law_514 (by omega) (by omega) ?_
  refine g_aload_n 515 dLaw_law_515 rfl ?_
  refine g_iload_n 516 dLaw_law_516 rfl ?_
  refine g_iconst 517 (nI 3) dLaw_law_517 rfl ?_
  refine g_iaddN 518 dLaw_law_518 ?_
  refine g_oaldN 519 (by decide) dLaw_law_519 (by omega) (by omega) ?_
  refine g_callV 520 [_, _, _] dLaw_law_520 cs_Law_50 rfl (ci := 0) rfl (by decide) hS.link rfl ⟨by show rC.frames + 1 ≤ 10; omega, by show 8 + (5 + 11) + rC.locals ≤ 362; omega⟩ (Nat.le_of_ble_eq_true rfl) hC (by omega) (by omega) ?_
  rintro _ M1 ⟨v, rfl, hS1, hM⟩
  refine g_aload_n 523 dLaw_law_523 rfl ?_
  refine g_aload_n 524 dLaw_law_524 rfl ?_
  refine g_iload_n 525 dLaw_law_525 rfl ?_
  refine g_iconst 526 (nI 1) dLaw_law_526 rfl ?_
  refine g_iaddN 527 dLaw_law_527 ?_
  refine g_oaldN 528 (by decide) dLaw_law_528 (by omega) (by omega) ?_
  refine g_aload_n 529 dLaw_law_529 rfl ?_
  refine g_iload_n 530 dLaw_law_530 rfl ?_
  refine g_iconst 531 (nI 2) dLaw_law_531 rfl ?_
  refine g_iaddN 532 dLaw_law_532 ?_
  refine g_oaldN 533 (by decide) dLaw_law_533 (by omega) (by omega) ?_
  refine g_aload_n 534 dLaw_law_534 rfl ?_
  refine g_iload_n 535 dLaw_law_535 rfl ?_
  refine g_iconst 536 (nI 3) dLaw_law_536 rfl ?_
  refine g_iaddN 537 dLaw_law_537 ?_
  refine g_oaldN 538 (by decide) dLaw_law_538 (by omega) (by omega) ?_
  refine g_callV 539 [_, _, _] dLaw_law_539 cs_Law_53 rfl (ci := 10) rfl (by decide) hS1.mod rfl ⟨by show rM.frames + 1 ≤ 10; omega, by show 8 + (5 + 11) + rM.locals ≤ 362; omega⟩ (Nat.le_of_ble_eq_true rfl) hM (by omega) (by omega) ?_
  rintro _ M2 ⟨rfl, hJ⟩
  refine g_icmp_eq 542 994 dLaw_law_542 rfl (fun _ => ?_) (fun h => absurd rfl h)
  exact G.bud bc0 bs0 (by omega) (by omega) (ih M2 hJ)
set_option maxRecDepth 100000 in
set_option maxHeartbeats 4000000 in
theorem g_law_8 {X : mX} {l : Launch} {M : mM} {i bc bs bc0 bs0 : Nat} {J : mM → Prop} {Q : Option Value → mM → Prop} (hL : xL X 0 ≤ 3584) (hi : i + 6 < xL X 0) (h1 : bc0 + 40 ≤ bc) (h2 : bs0 + 400 ≤ bs) (hS : Shp M) (hp : Prx X l uLink_deliver uMod_deliver [.int (xI X 0 (i + 1))] M J) (ih : ∀ M2, J M2 → G X l uLaw room_1 bc0 bs0 M2 994 [some (.ref 0), some (.ref 3), some (.ref 169), some (.int (nI i))] [] Q) : G X l uLaw room_1 bc bs M 547 [some (.ref 0), some (.ref 3), some (.ref 169), some (.int (nI i))] [] Q := by
  obtain ⟨rC, rM, ⟨c1, c2, c3, c4⟩, ⟨m1, m2, m3, m4⟩, hC⟩ := hp
  refine g_aload_n 547 dLaw_law_547 rfl ?_
  refine g_aload_n 548 dLaw_law_548 rfl ?_
  refine g_iload_n 549 dLaw_law_549 rfl ?_
  refine g_iconst 550 (nI 1) dLaw_law_550 rfl ?_
  refine g_iaddN 551 dLaw_law_551 ?_
  refine g_oaldN 552 (by decide) dLaw_law_552 (by omega) (by omega) ?_
  refine g_callV 553 [_] dLaw_law_553 cs_Law_54 rfl (ci := 0) rfl (by decide) hS.link rfl ⟨by show rC.frames + 1 ≤ 10; omega, by show 8 + (5 + 11) + rC.locals ≤ 362; omega⟩ (Nat.le_of_ble_eq_true rfl) hC (by omega) (by omega) ?_
  rintro _ M1 ⟨v, rfl, hS1, hM⟩
  refine g_aload_n 556 dLaw_law_556 rfl ?_
  refine g_aload_n 557 dLaw_law_557 rfl ?_
  refine g_iload_n 558 dLaw_law_558 rfl ?_
  refine g_iconst 559 (nI 1) dLaw_law_559 rfl ?_
  refine g_iaddN 560 dLaw_law_560 ?_
  refine g_oaldN 561 (by decide) dLaw_law_561 (by omega) (by omega) ?_
  refine g_callV 562 [_] dLaw_law_562 cs_Law_58 rfl (ci := 10) rfl (by decide) hS1.mod rfl ⟨by show rM.frames + 1 ≤ 10; omega, by show 8 + (4 + 11) + rM.locals ≤ 362; omega⟩ (Nat.le_of_ble_eq_true rfl) hM (by omega) (by omega) ?_
  rintro _ M2 ⟨rfl, hJ⟩
  refine g_icmp_eq 565 994 dLaw_law_565 rfl (fun _ => ?_) (fun h => absurd rfl h)
  exact G.bud bc0 bs0 (by omega) (by omega) (ih M2 hJ)
set_option maxRecDepth 100000 in
set_option maxHeartbeats 4000000 in
theorem g_law_9 {X : mX} {l : Launch} {M : mM} {i bc bs bc0 bs0 : Nat} {J : mM → Prop} {Q : Option Value → mM → Prop} (hL : xL X 0 ≤ 3584) (hi : i + 6 < xL X 0) (h1 : bc0 + 40 ≤ bc) (h2 : bs0 + 400 ≤ bs) (hS : Shp M) (hp : Prx X l uLink_inject uMod_inject [.int (xI X 0 (i + 1)), .int (xI X 0 (i + 2)), .int (xI X 0 (i + 3)), .int (xI X 0 (i + 4)), .int (bz (xI X 0 (i + 5)))] M J) (ih : ∀ M2, J M2 → G X l uLaw room_1 bc0 bs0 M2 994 [some (.ref 0), some (.ref 3), some (.ref 169), some (.int (nI i))] [] Q) : G X l uLaw room_1 bc bs M 570 [some (.ref 0), some (.ref 3), some (.ref 169), some (.int (nI i))] [] Q := by
  obtain ⟨rC, rM, ⟨c1, c2, c3, c4⟩, ⟨m1, m2, m3, m4⟩, hC⟩ := hp
  refine g_aload_n 570 dLaw_law_570 rfl ?_
  refine g_aload_n 571 dLaw_law_571 rfl ?_
  refine g_iload_n 572 dLaw_law_572 rfl ?_
  refine g_iconst 573 (nI 1) dLaw_law_573 rfl ?_
  refine g_iaddN 574 dLaw_law_574 ?_
  refine g_oaldN 575 (by decide) dLaw_law_575 (by omega) (by omega) ?_
  refine g_aload_n 576 dLaw_law_576 rfl ?_
  refine g_iload_n 577 dLaw_law_577 rfl ?_
  refine g_iconst 578 (nI 2) dLaw_law_578 rfl ?_
  refine g_iaddN 579 dLaw_law_579 ?_
  refine g_oaldN 580 (by decide) dLaw_law_580 (by omega) (by omega) ?_
  refine g_aload_n 581 dLaw_law_581 rfl ?_
  refine g_iload_n 582 dLaw_law_582 rfl ?_
  refine g_iconst 583 (nI 3) dLaw_law_583 rfl ?_
  refine g_iaddN 584 dLaw_law_584 ?_
  refine g_oaldN 585 (by decide) dLaw_law_585 (by omega) (by omega) ?_
  refine g_aload_n 586 dLaw_law_586 rfl ?_
  refine g_iload_n 587 dLaw_law_587 rfl ?_
  refine g_iconst 588 (nI 4) dLaw_law_588 rfl ?_
  refine g_iaddN 589 dLaw_law_589 ?_
  refine g_oaldN 590 (by decide) dLaw_law_590 (by omega) (by omega) ?_
  refine g_aload_n 591 dLaw_law_591 rfl ?_
  refine g_iload_n 592 dLaw_law_592 rfl ?_
  refine g_iconst 593 (nI 5) dLaw_law_593 rfl ?_
  refine g_iaddN 594 dLaw_law_594 ?_
  refine g_oaldN 595 (by decide) dLaw_law_595 (by omega) (by omega) ?_
  refine g_bz 596 603 604 dLaw_law_596 dLaw_law_599 dLaw_law_600 dLaw_law_603 rfl rfl rfl ?_
  refine g_callV 604 [_, _, _, _, _] dLaw_law_604 cs_Law_59 rfl (ci := 0) rfl (by decide) hS.link rfl ⟨by show rC.frames + 1 ≤ 10; omega, by show 8 + (8 + 11) + rC.locals ≤ 362; omega⟩ (Nat.le_of_ble_eq_true rfl) hC (by omega) (by omega) ?_
  rintro _ M1 ⟨v, rfl, hS1, hM⟩
  refine g_aload_n 607 dLaw_law_607 rfl ?_
  refine g_aload_n 608 dLaw_law_608 rfl ?_
  refine g_iload_n 609 dLaw_law_609 rfl ?_
  refine g_iconst 610 (nI 1) dLaw_law_610 rfl ?_
  refine g_iaddN 611 dLaw_law_611 ?_
  refine g_oaldN 612 (by decide) dLaw_law_612 (by omega) (by omega) ?_
  refine g_aload_n 613 dLaw_law_613 rfl ?_
  refine g_iload_n 614 dLaw_law_614 rfl ?_
  refine g_iconst 615 (nI 2) dLaw_law_615 rfl ?_
  refine g_iaddN 616 dLaw_law_616 ?_
  refine g_oaldN 617 (by decide) dLaw_law_617 (by omega) (by omega) ?_
  refine g_aload_n 618 dLaw_law_618 rfl ?_
  refine g_iload_n 619 dLaw_law_619 rfl ?_
  refine g_iconst 620 (nI 3) dLaw_law_620 rfl ?_
  refine g_iaddN 621 dLaw_law_621 ?_
  refine g_oaldN 622 (by decide) dLaw_law_622 (by omega) (by omega) ?_
  refine g_aload_n 623 dLaw_law_623 rfl ?_
  refine g_iload_n 624 dLaw_law_624 rfl ?_
  refine g_iconst 625 (nI 4) dLaw_law_625 rfl ?_
  refine g_iaddN 626 dLaw_law_626 ?_
  refine g_oaldN 627 (by decide) dLaw_law_627 (by omega) (by omega) ?_
  refine g_aload_n 628 dLaw_law_628 rfl ?_
  refine g_iload_n 629 dLaw_law_629 rfl ?_
  refine g_iconst 630 (nI 5) dLaw_law_630 rfl ?_
  refine g_iaddN 631 dLaw_law_631 ?_
  refine g_oaldN 632 (by decide) dLaw_law_632 (by omega) (by omega) ?_
  refine g_bz 633 640 641 dLaw_law_633 dLaw_law_636 dLaw_law_637 dLaw_law_640 rfl rfl rfl ?_
  refine g_callV 641 [_, _, _, _, _] dLaw_law_641 cs_Law_63 rfl (ci := 10) rfl (by decide) hS1.mod rfl ⟨by show rM.frames + 1 ≤ 10; omega, by show 8 + (10 + 11) + rM.locals ≤ 362; omega⟩ (Nat.le_of_ble_eq_true rfl) hM (by omega) (by omega) ?_
  rintro _ M2 ⟨rfl, hJ⟩
  refine g_icmp_eq 644 994 dLaw_law_644 rfl (fun _ => ?_) (fun h => absurd rfl h)
  exact G.bud bc0 bs0 (by omega) (by omega) (ih M2 hJ)
set_option maxRecDepth 100000 in
set_option maxHeartbeats 4000000 in
theorem g_law_10 {X : mX} {l : Launch} {M : mM} {i bc bs bc0 bs0 : Nat} {J : mM → Prop} {Q : Option Value → mM → Prop} (hL : xL X 0 ≤ 3584) (hi : i + 6 < xL X 0) (h1 : bc0 + 40 ≤ bc) (h2 : bs0 + 400 ≤ bs) (hS : Shp M) (hp : Prx X l uLink_frame uMod_frame [.int (xI X 0 (i + 1)), .int (xI X 0 (i + 2)), .int (xI X 0 (i + 3))] M J) (ih : ∀ M2, J M2 → G X l uLaw room_1 bc0 bs0 M2 994 [some (.ref 0), some (.ref 3), some (.ref 169), some (.int (nI i))] [] Q) : G X l uLaw room_1 bc bs M 649 [some (.ref 0), some (.ref 3), some (.ref 169), some (.int (nI i))] [] Q := by
  obtain ⟨rC, rM, ⟨c1, c2, c3, c4⟩, ⟨m1, m2, m3, m4⟩, hC⟩ := hp
  refine g_aload_n 649 dLaw_law_649 rfl ?_
  refine g_aload_n 650 dLaw_law_650 rfl ?_
  refine g_iload_n 651 dLaw_law_651 rfl ?_
  refine g_iconst 652 (nI 1) dLaw_law_652 rfl ?_
  refine g_iaddN 653 dLaw_law_653 ?_
  refine g_oaldN 654 (by decide) dLaw_law_654 (by omega) (by omega) ?_
  refine g_aload_n 655 dLaw_law_655 rfl ?_
  refine g_iload_n 656 dLaw_law_656 rfl ?_
  refine g_iconst 657 (nI 2) dLaw_law_657 rfl ?_
  refine g_iaddN 658 dLaw_law_658 ?_
  refine g_oaldN 659 (by decide) dLaw_law_659 (by omega) (by omega) ?_
  refine g_aload_n 660 dLaw_law_660 rfl ?_
  refine g_iload_n 661 dLaw_law_661 rfl ?_
  refine g_iconst 662 (nI 3) dLaw_law_662 rfl ?_
  refine g_iaddN 663 dLaw_law_663 ?_
  refine g_oaldN 664 (by decide) dLaw_law_664 (by omega) (by omega) ?_
  refine g_callV 665 [_, _, _] dLaw_law_665 cs_Law_64 rfl (ci := 0) rfl (by decide) hS.link rfl ⟨by show rC.frames + 1 ≤ 10; omega, by show 8 + (6 + 11) + rC.locals ≤ 362; omega⟩ (Nat.le_of_ble_eq_true rfl) hC (by omega) (by omega) ?_
  rintro _ M1 ⟨v, rfl, hS1, hM⟩
  refine g_aload_n 668 dLaw_law_668 rfl ?_
  refine g_aload_n 669 dLaw_law_669 rfl ?_
  refine g_iload_n 670 dLaw_law_670 rfl ?_
  refine g_iconst 671 (nI 1) dLaw_law_671 rfl ?_
  refine g_iaddN 672 dLaw_law_672 ?_
  refine g_oaldN 673 (by decide) dLaw_law_673 (by omega) (by omega) ?_
  refine g_aload_n 674 dLaw_law_674 rfl ?_
  refine g_iload_n 675 dLaw_law_675 rfl ?_
  refine g_iconst 676 (nI 2) dLaw_law_676 rfl ?_
  refine g_iaddN 677 dLaw_law_677 ?_
  refine g_oaldN 678 (by decide) dLaw_law_678 (by omega) (by omega) ?_
  refine g_aload_n 679 dLaw_law_679 rfl ?_
  refine g_iload_n 680 dLaw_law_680 rfl ?_
  refine g_iconst 681 (nI 3) dLaw_law_681 rfl ?_
  refine g_iaddN 682 dLaw_law_682 ?_
  refine g_oaldN 683 (by decide) dLaw_law_683 (by omega) (by omega) ?_
  refine g_callV 684 [_, _, _] dLaw_law_684 cs_Law_68 rfl (ci := 10) rfl (by decide) hS1.mod rfl ⟨by show rM.frames + 1 ≤ 10; omega, by show 8 + (7 + 11) + rM.locals ≤ 362; omega⟩ (Nat.le_of_ble_eq_true rfl) hM (by omega) (by omega) ?_
  rintro _ M2 ⟨rfl, hJ⟩
  refine g_icmp_eq 687 994 dLaw_law_687 rfl (fun _ => ?_) (fun h => absurd rfl h)
  exact G.bud bc0 bs0 (by omega) (by omega) (ih M2 hJ)
set_option maxRecDepth 100000 in
set_option maxHeartbeats 4000000 in
theorem g_law_11 {X : mX} {l : Launch} {M : mM} {i bc bs bc0 bs0 : Nat} {J : mM → Prop} {Q : Option Value → mM → Prop} (hL : xL X 0 ≤ 3584) (hi : i + 6 < xL X 0) (h1 : bc0 + 40 ≤ bc) (h2 : bs0 + 400 ≤ bs) (hS : Shp M) (hp : Prx X l uLink_state uMod_state [.int (xI X 0 (i + 1)), .int (xI X 0 (i + 2))] M J) (ih : ∀ M2, J M2 → G X l uLaw room_1 bc0 bs0 M2 994 [some (.ref 0), some (.ref 3), some (.ref 169), some (.int (nI i))] [] Q) : G X l uLaw room_1 bc bs M 692 [some (.ref 0), some (.ref 3), some (.ref 169), some (.int (nI i))] [] Q := by
  obtain ⟨rC, rM, ⟨c1, c2, c3, c4⟩, ⟨m1, m2, m3, m4⟩, hC⟩ := hp
  refine g_aload_n 692 dLaw_law_692 rfl ?_
  refine g_aload_n 693 dLaw_law_693 rfl ?_
  refine g_iload_n 694 dLaw_law_694 rfl ?_
  refine g_iconst 695 (nI 1) dLaw_law_695 rfl ?_
  refine g_iaddN 696 dLaw_law_696 ?_
  refine g_oaldN 697 (by decide) dLaw_law_697 (by omega) (by omega) ?_
  refine g_aload_n 698 dLaw_law_698 rfl ?_
  refine g_iload_n 699 dLaw_law_699 rfl ?_
  refine g_iconst 700 (nI 2) dLaw_law_700 rfl ?_
  refine g_iaddN 701 dLaw_law_701 ?_
  refine g_oaldN 702 (by decide) dLaw_law_702 (by omega) (by omega) ?_
  refine g_callV 703 [_, _] dLaw_law_703 cs_Law_69 rfl (ci := 0) rfl (by decide) hS.link rfl ⟨by show rC.frames + 1 ≤ 10; omega, by show 8 + (4 + 11) + rC.locals ≤ 362; omega⟩ (Nat.le_of_ble_eq_true rfl) hC (by omega) (by omega) ?_
  rintro _ M1 ⟨v, rfl, hS1, hM⟩
  refine g_aload_n 706 dLaw_law_706 rfl ?_
  refine g_aload_n 707 dLaw_law_707 rfl ?_
  refine g_iload_n 708 dLaw_law_708 rfl ?_
  refine g_iconst 709 (nI 1) dLaw_law_709 rfl ?_
  refine g_iaddN 710 dLaw_law_710 ?_
  refine g_oaldN 711 (by decide) dLaw_law_711 (by omega) (by omega) ?_
  refine g_aload_n 712 dLaw_law_712 rfl ?_
  refine g_iload_n 713 dLaw_law_713 rfl ?_
  refine g_iconst 714 (nI 2) dLaw_law_714 rfl ?_
  refine g_iaddN 715 dLaw_law_715 ?_
  refine g_oaldN 716 (by decide) dLaw_law_716 (by omega) (by omega) ?_
  refine g_callV 717 [_, _] dLaw_law_717 cs_Law_72 rfl (ci := 10) rfl (by decide) hS1.mod rfl ⟨by show rM.frames + 1 ≤ 10; omega, by show 8 + (3 + 11) + rM.locals ≤ 362; omega⟩ (Nat.le_of_ble_eq_true rfl) hM (by omega) (by omega) ?_
  rintro _ M2 ⟨rfl, hJ⟩
  refine g_icmp_eq 720 994 dLaw_law_720 rfl (fun _ => ?_) (fun h => absurd rfl h)
  exact G.bud bc0 bs0 (by omega) (by omega) (ih M2 hJ)
set_option maxRecDepth 100000 in
set_option maxHeartbeats 4000000 in
theorem g_law_12 {X : mX} {l : Launch} {M : mM} {i bc bs bc0 bs0 : Nat} {J : mM → Prop} {Q : Option Value → mM → Prop} (hL : xL X 0 ≤ 3584) (hi : i + 6 < xL X 0) (h1 : bc0 + 40 ≤ bc) (h2 : bs0 + 400 ≤ bs) (hS : Shp M) (hp : Prx X l uLink_window uMod_window [.int (xI X 0 (i + 1)), .int (xI X 0 (i + 2)), .int (bz (xI X 0 (i + 3)))] M J) (ih : ∀ M2, J M2 → G X l uLaw room_1 bc0 bs0 M2 994 [some (.ref 0), some (.ref 3), some (.ref 169), some (.int (nI i))] [] Q) : G X l uLaw room_1 bc bs M 725 [some (.ref 0), some (.ref 3), some (.ref 169), some (.int (nI i))] [] Q := by
  obtain ⟨rC, rM, ⟨c1, c2, c3, c4⟩, ⟨m1, m2, m3, m4⟩, hC⟩ := hp
  refine g_aload_n 725 dLaw_law_725 rfl ?_
  refine g_aload_n 726 dLaw_law_726 rfl ?_
  refine g_iload_n 727 dLaw_law_727 rfl ?_
  refine g_iconst 728 (nI 1) dLaw_law_728 rfl ?_
  refine g_iaddN 729 dLaw_law_729 ?_
  refine g_oaldN 730 (by decide) dLaw_law_730 (by omega) (by omega) ?_
  refine g_aload_n 731 dLaw_law_731 rfl ?_
  refine g_iload_n 732 dLaw_law_732 rfl ?_
  refine g_iconst 733 (nI 2) dLaw_law_733 rfl ?_
  refine g_iaddN 734 dLaw_law_734 ?_
  refine g_oaldN 735 (by decide) dLaw_law_735 (by omega) (by omega) ?_
  refine g_aload_n 736 dLaw_law_736 rfl ?_
  refine g_iload_n 737 dLaw_law_737 rfl ?_
  refine g_iconst 738 (nI 3) dLaw_law_738 rfl ?_
  refine g_iaddN 739 dLaw_law_739 ?_
  refine g_oaldN 740 (by decide) dLaw_law_740 (by omega) (by omega) ?_
  refine g_bz 741 748 749 dLaw_law_741 dLaw_law_744 dLaw_law_745 dLaw_law_748 rfl rfl rfl ?_
  refine g_callV 749 [_, _, _] dLaw_law_749 cs_Law_73 rfl (ci := 0) rfl (by decide) hS.link rfl ⟨by show rC.frames + 1 ≤ 10; omega, by show 8 + (6 + 11) + rC.locals ≤ 362; omega⟩ (Nat.le_of_ble_eq_true rfl) hC (by omega) (by omega) ?_
  rintro _ M1 ⟨v, rfl, hS1, hM⟩
  refine g_aload_n 752 dLaw_law_752 rfl ?_
  refine g_aload_n 753 dLaw_law_753 rfl ?_
  refine g_iload_n 754 dLaw_law_754 rfl ?_
  refine g_iconst 755 (nI 1) dLaw_law_755 rfl ?_
  refine g_iaddN 756 dLaw_law_756 ?_
  refine g_oaldN 757 (by decide) dLaw_law_757 (by omega) (by omega) ?_
  refine g_aload_n 758 dLaw_law_758 rfl ?_
  refine g_iload_n 759 dLaw_law_759 rfl ?_
  refine g_iconst 760 (nI 2) dLaw_law_760 rfl ?_
  refine g_iaddN 761 dLaw_law_761 ?_
  refine g_oaldN 762 (by decide) dLaw_law_762 (by omega) (by omega) ?_
  refine g_aload_n 763 dLaw_law_763 rfl ?_
  refine g_iload_n 764 dLaw_law_764 rfl ?_
  refine g_iconst 765 (nI 3) dLaw_law_765 rfl ?_
  refine g_iaddN 766 dLaw_law_766 ?_
  refine g_oaldN 767 (by decide) dLaw_law_767 (by omega) (by omega) ?_
  refine g_bz 768 775 776 dLaw_law_768 dLaw_law_771 dLaw_law_772 dLaw_law_775 rfl rfl rfl ?_
  refine g_callV 776 [_, _, _] dLaw_law_776 cs_Law_77 rfl (ci := 10) rfl (by decide) hS1.mod rfl ⟨by show rM.frames + 1 ≤ 10; omega, by show 8 + (4 + 11) + rM.locals ≤ 362; omega⟩ (Nat.le_of_ble_eq_true rfl) hM (by omega) (by omega) ?_
  rintro _ M2 ⟨rfl, hJ⟩
  refine g_icmp_eq 779 994 dLaw_law_779 rfl (fun _ => ?_) (fun h => absurd rfl h)
  exact G.bud bc0 bs0 (by omega) (by omega) (ih M2 hJ)
set_option maxRecDepth 100000 in
set_option maxHeartbeats 4000000 in
theorem g_law_13 {X : mX} {l : Launch} {M : mM} {i bc bs bc0 bs0 : Nat} {J : mM → Prop} {Q : Option Value → mM → Prop} (hL : xL X 0 ≤ 3584) (hi : i + 6 < xL X 0) (h1 : bc0 + 40 ≤ bc) (h2 : bs0 + 400 ≤ bs) (hS : Shp M) (hp : Prx X l uLink_bytes uMod_bytes [.int (xI X 0 (i + 1)), .int (xI X 0 (i + 2)), .int (bz (xI X 0 (i + 3)))] M J) (ih : ∀ M2, J M2 → G X l uLaw room_1 bc0 bs0 M2 994 [some (.ref 0), some (.ref 3), some (.ref 169), some (.int (nI i))] [] Q) : G X l uLaw room_1 bc bs M 784 [some (.ref 0), some (.ref 3), some (.ref 169), some (.int (nI i))] [] Q := by
  obtain ⟨rC, rM, ⟨c1, c2, c3, c4⟩, ⟨m1, m2, m3, m4⟩, hC⟩ := hp
  refine g_aload_n 784 dLaw_law_784 rfl ?_
  refine g_aload_n 785 dLaw_law_785 rfl ?_
  refine g_iload_n 786 dLaw_law_786 rfl ?_
  refine g_iconst 787 (nI 1) dLaw_law_787 rfl ?_
  refine g_iaddN 788 dLaw_law_788 ?_
  refine g_oaldN 789 (by decide) dLaw_law_789 (by omega) (by omega) ?_
  refine g_aload_n 790 dLaw_law_790 rfl ?_
  refine g_iload_n 791 dLaw_law_791 rfl ?_
  refine g_iconst 792 (nI 2) dLaw_law_792 rfl ?_
  refine g_iaddN 793 dLaw_law_793 ?_
  refine g_oaldN 794 (by decide) dLaw_law_794 (by omega) (by omega) ?_
  refine g_aload_n 795 dLaw_law_795 rfl ?_
  refine g_iload_n 796 dLaw_law_796 rfl ?_
  refine g_iconst 797 (nI 3) dLaw_law_797 rfl ?_
  refine g_iaddN 798 dLaw_law_798 ?_
  refine g_oaldN 799 (by decide) dLaw_law_799 (by omega) (by omega) ?_
  refine g_bz 800 807 808 dLaw_law_800 dLaw_law_803 dLaw_law_804 dLaw_law_807 rfl rfl rfl ?_
  refine g_callV 808 [_, _, _] dLaw_law_808 cs_Law_78 rfl (ci := 0) rfl (by decide) hS.link rfl ⟨by show rC.frames + 1 ≤ 10; omega, by show 8 + (5 + 11) + rC.locals ≤ 362; omega⟩ (Nat.le_of_ble_eq_true rfl) hC (by omega) (by omega) ?_
  rintro _ M1 ⟨v, rfl, hS1, hM⟩
  refine g_aload_n 811 dLaw_law_811 rfl ?_
  refine g_aload_n 812 dLaw_law_812 rfl ?_
  refine g_iload_n 813 dLaw_law_813 rfl ?_
  refine g_iconst 814 (nI 1) dLaw_law_814 rfl ?_
  refine g_iaddN 815 dLaw_law_815 ?_
  refine g_oaldN 816 (by decide) dLaw_law_816 (by omega) (by omega) ?_
  refine g_aload_n 817 dLaw_law_817 rfl ?_
  refine g_iload_n 818 dLaw_law_818 rfl ?_
  refine g_iconst 819 (nI 2) dLaw_law_819 rfl ?_
  refine g_iaddN 820 dLaw_law_820 ?_
  refine g_oaldN 821 (by decide) dLaw_law_821 (by omega) (by omega) ?_
  refine g_aload_n 822 dLaw_law_822 rfl ?_
  refine g_iload_n 823 dLaw_law_823 rfl ?_
  refine g_iconst 824 (nI 3) dLaw_law_824 rfl ?_
  refine g_iaddN 825 dLaw_law_825 ?_
  refine g_oaldN 826 (by decide) dLaw_law_826 (by omega) (by omega) ?_
  refine g_bz 827 834 835 dLaw_law_827 dLaw_law_830 dLaw_law_831 dLaw_law_834 rfl rfl rfl ?_
  refine g_callV 835 [_, _, _] dLaw_law_835 cs_Law_81 rfl (ci := 10) rfl (by decide) hS1.mod rfl ⟨by show rM.frames + 1 ≤ 10; omega, by show 8 + (4 + 11) + rM.locals ≤ 362; omega⟩ (Nat.le_of_ble_eq_true rfl) hM (by omega) (by omega) ?_
  rintro _ M2 ⟨rfl, hJ⟩
  refine g_icmp_eq 838 994 dLaw_law_838 rfl (fun _ => ?_) (fun h => absurd rfl h)
  exact G.bud bc0 bs0 (by omega) (by omega) (ih M2 hJ)
set_option maxRecDepth 100000 in
set_option maxHeartbeats 4000000 in
theorem g_law_14 {X : mX} {l : Launch} {M : mM} {i bc bs bc0 bs0 : Nat} {J : mM → Prop} {Q : Option Value → mM → Prop} (hL : xL X 0 ≤ 3584) (hi : i + 6 < xL X 0) (h1 : bc0 + 40 ≤ bc) (h2 : bs0 + 400 ≤ bs) (hS : Shp M) (hp : Prx X l uLink_field uMod_field [.int (xI X 0 (i + 1)), .int (xI X 0 (i + 2)), .int (xI X 0 (i + 3)), .int (bz (xI X 0 (i + 4)))] M J) (ih : ∀ M2, J M2 → G X l uLaw room_1 bc0 bs0 M2 994 [some (.ref 0), some (.ref 3), some (.ref 169), some (.int (nI i))] [] Q) : G X l uLaw room_1 bc bs M 843 [some (.ref 0), some (.ref 3), some (.ref 169), some (.int (nI i))] [] Q := by
  obtain ⟨rC, rM, ⟨c1, c2, c3, c4⟩, ⟨m1, m2, m3, m4⟩, hC⟩ := hp
  refine g_aload_n 843 dLaw_law_843 rfl ?_
  refine g_aload_n 844 dLaw_law_844 rfl ?_
  refine g_iload_n 845 dLaw_law_845 rfl ?_
  refine g_iconst 846 (nI 1) dLaw_law_846 rfl ?_
  refine g_iaddN 847 dLaw_law_847 ?_
  refine g_oaldN 848 (by decide) dLaw_law_848 (by omega) (by omega) ?_
  refine g_aload_n 849 dLaw_law_849 rfl ?_
  refine g_iload_n 850 dLaw_law_850 rfl ?_
  refine g_iconst 851 (nI 2) dLaw_law_851 rfl ?_
  refine g_iaddN 852 dLaw_law_852 ?_
  refine g_oaldN 853 (by decide) dLaw_law_853 (by omega) (by omega) ?_
  refine g_aload_n 854 dLaw_law_854 rfl ?_
  refine g_iload_n 855 dLaw_law_855 rfl ?_
  refine g_iconst 856 (nI 3) dLaw_law_856 rfl ?_
  refine g_iaddN 857 dLaw_law_857 ?_
  refine g_oaldN 858 (by decide) dLaw_law_858 (by omega) (by omega) ?_
  refine g_aload_n 859 dLaw_law_859 rfl ?_
  refine g_iload_n 860 dLaw_law_860 rfl ?_
  refine g_iconst 861 (nI 4) dLaw_law_861 rfl ?_
  refine g_iaddN 862 dLaw_law_862 ?_
  refine g_oaldN 863 (by decide) dLaw_law_863 (by omega) (by omega) ?_
  refine g_bz 864 871 872 dLaw_law_864 dLaw_law_867 dLaw_law_868 dLaw_law_871 rfl rfl rfl ?_
  refine g_callV 872 [_, _, _, _] dLaw_law_872 cs_Law_82 rfl (ci := 0) rfl (by decide) hS.link rfl ⟨by show rC.frames + 1 ≤ 10; omega, by show 8 + (6 + 11) + rC.locals ≤ 362; omega⟩ (Nat.le_of_ble_eq_true rfl) hC (by omega) (by omega) ?_
  rintro _ M1 ⟨v, rfl, hS1, hM⟩
  refine g_aload_n 875 dLaw_law_875 rfl ?_
  refine g_aload_n 876 dLaw_law_876 rfl ?_
  refine g_iload_n 877 dLaw_law_877 rfl ?_
  refine g_iconst 878 (nI 1) dLaw_law_878 rfl ?_
  refine g_iaddN 879 dLaw_law_879 ?_
  refine g_oaldN 880 (by decide) dLaw_law_880 (by omega) (by omega) ?_
  refine g_aload_n 881 dLaw_law_881 rfl ?_
  refine g_iload_n 882 dLaw_law_882 rfl ?_
  refine g_iconst 883 (nI 2) dLaw_law_883 rfl ?_
  refine g_iaddN 884 dLaw_law_884 ?_
  refine g_oaldN 885 (by decide) dLaw_law_885 (by omega) (by omega) ?_
  refine g_aload_n 886 dLaw_law_886 rfl ?_
  refine g_iload_n 887 dLaw_law_887 rfl ?_
  refine g_iconst 888 (nI 3) dLaw_law_888 rfl ?_
  refine g_iaddN 889 dLaw_law_889 ?_
  refine g_oaldN 890 (by decide) dLaw_law_890 (by omega) (by omega) ?_
  refine g_aload_n 891 dLaw_law_891 rfl ?_
  refine g_iload_n 892 dLaw_law_892 rfl ?_
  refine g_iconst 893 (nI 4) dLaw_law_893 rfl ?_
  refine g_iaddN 894 dLaw_law_894 ?_
  refine g_oaldN 895 (by decide) dLaw_law_895 (by omega) (by omega) ?_
  refine g_bz 896 903 904 dLaw_law_896 dLaw_law_899 dLaw_law_900 dLaw_law_903 rfl rfl rfl ?_
  refine g_callV 904 [_, _, _, _] dLaw_law_904 cs_Law_85 rfl (ci := 10) rfl (by decide) hS1.mod rfl ⟨by show rM.frames + 1 ≤ 10; omega, by show 8 + (6 + 11) + rM.locals ≤ 362; omega⟩ (Nat.le_of_ble_eq_true rfl) hM (by omega) (by omega) ?_
  rintro _ M2 ⟨rfl, hJ⟩
  refine g_icmp_eq 907 994 dLaw_law_907 rfl (fun _ => ?_) (fun h => absurd rfl h)
  exact G.bud bc0 bs0 (by omega) (by omega) (ih M2 hJ)
set_option maxRecDepth 100000 in
set_option maxHeartbeats 4000000 in
theorem g_law_15 {X : mX} {l : Launch} {M : mM} {i bc bs bc0 bs0 : Nat} {J : mM → Prop} {Q : Option Value → mM → Prop} (hL : xL X 0 ≤ 3584) (hi : i + 6 < xL X 0) (h1 : bc0 + 40 ≤ bc) (h2 : bs0 + 400 ≤ bs) (hS : Shp M) (hp : Prx X l uLink_table uMod_table [.int (xI X 0 (i + 1)), .int (bz (xI X 0 (i + 2))), .int (xI X 0 (i + 3))] M J) (ih : ∀ M2, J M2 → G X l uLaw room_1 bc0 bs0 M2 994 [some (.ref 0), some (.ref 3), some (.ref 169), some (.int (nI i))] [] Q) : G X l uLaw room_1 bc bs M 912 [some (.ref 0), some (.ref 3), some (.ref 169), some (.int (nI i))] [] Q := by
  obtain ⟨rC, rM, ⟨c1, c2, c3, c4⟩, ⟨m1, m2, m3, m4⟩, hC⟩ := hp
  refine g_aload_n 912 dLaw_law_912 rfl ?_
  refine g_aload_n 913 dLaw_law_913 rfl ?_
  refine g_iload_n 914 dLaw_law_914 rfl ?_
  refine g_iconst 915 (nI 1) dLaw_law_915 rfl ?_
  refine g_iaddN 916 dLaw_law_916 ?_
  refine g_oaldN 917 (by decide) dLaw_law_917 (by omega) (by omega) ?_
  refine g_aload_n 918 dLaw_law_918 rfl ?_
  refine g_iload_n 919 dLaw_law_919 rfl ?_
  refine g_iconst 920 (nI 2) dLaw_law_920 rfl ?_
  refine g_iaddN 921 dLaw_law_921 ?_
  refine g_oaldN 922 (by decide) dLaw_law_922 (by omega) (by omega) ?_
  refine g_bz 923 930 931 dLaw_law_923 dLaw_law_926 dLaw_law_927 dLaw_law_930 rfl rfl rfl ?_
  refine g_aload_n 931 dLaw_law_931 rfl ?_
  refine g_iload_n 932 dLaw_law_932 rfl ?_
  refine g_iconst 933 (nI 3) dLaw_law_933 rfl ?_
  refine g_iaddN 934 dLaw_law_934 ?_
  refine g_oaldN 935 (by decide) dLaw_law_935 (by omega) (by omega) ?_
  refine g_callV 936 [_, _, _] dLaw_law_936 cs_Law_86 rfl (ci := 0) rfl (by decide) hS.link rfl ⟨by show rC.frames + 1 ≤ 10; omega, by show 8 + (6 + 11) + rC.locals ≤ 362; omega⟩ (Nat.le_of_ble_eq_true rfl) hC (by omega) (by omega) ?_
  rintro _ M1 ⟨v, rfl, hS1, hM⟩
  refine g_aload_n 939 dLaw_law_939 rfl ?_
  refine g_aload_n 940 dLaw_law_940 rfl ?_
  refine g_iload_n 941 dLaw_law_941 rfl ?_
  refine g_iconst 942 (nI 1) dLaw_law_942 rfl ?_
  refine g_iaddN 943 dLaw_law_943 ?_
  refine g_oaldN 944 (by decide) dLaw_law_944 (by omega) (by omega) ?_
  refine g_aload_n 945 dLaw_law_945 rfl ?_
  refine g_iload_n 946 dLaw_law_946 rfl ?_
  refine g_iconst 947 (nI 2) dLaw_law_947 rfl ?_
  refine g_iaddN 948 dLaw_law_948 ?_
  refine g_oaldN 949 (by decide) dLaw_law_949 (by omega) (by omega) ?_
  refine g_bz 950 957 958 dLaw_law_950 dLaw_law_953 dLaw_law_954 dLaw_law_957 rfl rfl rfl ?_
  refine g_aload_n 958 dLaw_law_958 rfl ?_
  refine g_iload_n 959 dLaw_law_959 rfl ?_
  refine g_iconst 960 (nI 3) dLaw_law_960 rfl ?_
  refine g_iaddN 961 dLaw_law_961 ?_
  refine g_oaldN 962 (by decide) dLaw_law_962 (by omega) (by omega) ?_
  refine g_callV 963 [_, _, _] dLaw_law_963 cs_Law_90 rfl (ci := 10) rfl (by decide) hS1.mod rfl ⟨by show rM.frames + 1 ≤ 10; omega, by show 8 + (5 + 11) + rM.locals ≤ 362; omega⟩ (Nat.le_of_ble_eq_true rfl) hM (by omega) (by omega) ?_
  rintro _ M2 ⟨rfl, hJ⟩
  refine g_icmp_eq 966 994 dLaw_law_966 rfl (fun _ => ?_) (fun h => absurd rfl h)
  exact G.bud bc0 bs0 (by omega) (by omega) (ih M2 hJ)
set_option maxRecDepth 100000 in
set_option maxHeartbeats 4000000 in
theorem g_law_16 {X : mX} {l : Launch} {M : mM} {i bc bs bc0 bs0 : Nat} {J : mM → Prop} {Q : Option Value → mM → Prop} (hL : xL X 0 ≤ 3584) (hi : i + 6 < xL X 0) (h1 : bc0 + 40 ≤ bc) (h2 : bs0 + 400 ≤ bs) (hS : Shp M) (hp : Prx X l uLink_down uMod_down [.int (xI X 0 (i + 1))] M J) (ih : ∀ M2, J M2 → G X l uLaw room_1 bc0 bs0 M2 994 [some (.ref 0), some (.ref 3), some (.ref 169), some (.int (nI i))] [] Q) : G X l uLaw room_1 bc bs M 971 [some (.ref 0), some (.ref 3), some (.ref 169), some (.int (nI i))] [] Q := by
  obtain ⟨rC, rM, ⟨c1, c2, c3, c4⟩, ⟨m1, m2, m3, m4⟩, hC⟩ := hp
  refine g_aload_n 971 dLaw_law_971 rfl ?_
  refine g_aload_n 972 dLaw_law_972 rfl ?_
  refine g_iload_n 973 dLaw_law_973 rfl ?_
  refine g_iconst 974 (nI 1) dLaw_law_974 rfl ?_
  refine g_iaddN 975 dLaw_law_975 ?_
  refine g_oaldN 976 (by decide) dLaw_law_976 (by omega) (by omega) ?_
  refine g_callV 977 [_] dLaw_law_977 cs_Law_91 rfl (ci := 0) rfl (by decide) hS.link rfl ⟨by show rC.frames + 1 ≤ 10; omega, by show 8 + (3 + 11) + rC.locals ≤ 362; omega⟩ (Nat.le_of_ble_eq_true rfl) hC (by omega) (by omega) ?_
  rintro _ M1 ⟨v, rfl, hS1, hM⟩
  refine g_aload_n 980 dLaw_law_980 rfl ?_
  refine g_aload_n 981 dLaw_law_981 rfl ?_
  refine g_iload_n 982 dLaw_law_982 rfl ?_
  refine g_iconst 983 (nI 1) dLaw_law_983 rfl ?_
  refine g_iaddN 984 dLaw_law_984 ?_
  refine g_oaldN 985 (by decide) dLaw_law_985 (by omega) (by omega) ?_
  refine g_callV 986 [_] dLaw_law_986 cs_Law_94 rfl (ci := 10) rfl (by decide) hS1.mod rfl ⟨by show rM.frames + 1 ≤ 10; omega, by show 8 + (2 + 11) + rM.locals ≤ 362; omega⟩ (Nat.le_of_ble_eq_true rfl) hM (by omega) (by omega) ?_
  rintro _ M2 ⟨rfl, hJ⟩
  refine g_icmp_eq 989 994 dLaw_law_989 rfl (fun _ => ?_) (fun h => absurd rfl h)
  exact G.bud bc0 bs0 (by omega) (by omega) (ih M2 hJ)
end
section
theorem ns_Law_7 : nS "InterleavedLinkLaw" 7 0 1 := ⟨"InterleavedLink", T_Link, cf_Link, (gW_in 80 (by decide +kernel) rfl), (gW_in 81 (by decide +kernel) rfl), (gW_in 64 (by decide +kernel) rfl)⟩
theorem ns_Law_10 : nS "InterleavedLinkLaw" 10 10 56 := ⟨"InterleavedLinkModel", T_Mod, cf_Mod, (gW_in 855 (by decide +kernel) rfl), (gW_in 856 (by decide +kernel) rfl), (gW_in 74 (by decide +kernel) rfl)⟩
theorem cs_Law_9 : cI "InterleavedLinkLaw" 9 uLink_init 0 := ⟨⟨Or.inl (gW_in 82 (by decide +kernel) rfl), (gW_in 64 (by decide +kernel) rfl), (gW_in 84 (by decide +kernel) rfl), ⟨by decide, by decide⟩, by decide +kernel⟩, (gW_in 83 (by decide +kernel) rfl), rfl, rfl⟩
theorem cs_Law_12 : cI "InterleavedLinkLaw" 12 uMod_init 0 := ⟨⟨Or.inl (gW_in 857 (by decide +kernel) rfl), (gW_in 74 (by decide +kernel) rfl), (gW_in 859 (by decide +kernel) rfl), ⟨by decide, by decide⟩, by decide +kernel⟩, (gW_in 858 (by decide +kernel) rfl), rfl, rfl⟩
/-- every pair of calls that the law can make at M -/
def AllPr (X : mX) (l : Launch) (M : mM) (J : mM → Prop) : Prop := (∀ a1 a2 a3 a4 : Int32, Prx X l uLink_header uMod_header [.int a1, .int a2, .int a3, .int (bz a4)] M J) ∧ (∀ a1 : Int32, Prx X l uLink_request uMod_request [.int (bz a1)] M J) ∧ (∀ a1 a2 : Int32, Prx X l uLink_respond uMod_respond [.int a1, .int (bz a2)] M J) ∧ (∀ a1 a2 a3 a4 a5 a6 : Int32, Prx X l uLink_write uMod_write [.int a1, .int a2, .long (lng a3 a4), .int a5, .int (bz a6)] M J) ∧ (∀ a1 a2 : Int32, Prx X l uLink_pump uMod_pump [.int a1, .int a2] M J) ∧ (∀ a1 a2 a3 : Int32, Prl X l uLink_read uMod_read [.int a1, .int a2, .int a3] M J) ∧ (∀ a1 a2 a3 : Int32, Prx X l uLink_reset uMod_reset [.int a1, .int a2, .int a3] M J) ∧ (∀ a1 a2 a3 : Int32, Prx X l uLink_setting uMod_setting [.int a1, .int a2, .int a3] M J) ∧ (∀ a1 : Int32, Prx X l uLink_deliver uMod_deliver [.int a1] M J) ∧ (∀ a1 a2 a3 a4 a5 : Int32, Prx X l uLink_inject uMod_inject [.int a1, .int a2, .int a3, .int a4, .int (bz a5)] M J) ∧ (∀ a1 a2 a3 : Int32, Prx X l uLink_frame uMod_frame [.int a1, .int a2, .int a3] M J) ∧ (∀ a1 a2 : Int32, Prx X l uLink_state uMod_state [.int a1, .int a2] M J) ∧ (∀ a1 a2 a3 : Int32, Prx X l uLink_window uMod_window [.int a1, .int a2, .int (bz a3)] M J) ∧ (∀ a1 a2 a3 : Int32, Prx X l uLink_bytes uMod_bytes [.int a1, .int a2, .int (bz a3)] M J) ∧ (∀ a1 a2 a3 a4 : Int32, Prx X l uLink_field uMod_field [.int a1, .int a2, .int a3, .int (bz a4)] M J) ∧ (∀ a1 a2 a3 : Int32, Prx X l uLink_table uMod_table [.int a1, .int (bz a2), .int a3] M J) ∧ (∀ a1 : Int32, Prx X l uLink_down uMod_down [.int a1] M J)
theorem cmp7 {L i : Nat} (hL : L < 2 ^ 30) (hi : i < 2 ^ 30) : nI L - nI 7 < nI i ↔ L < i + 7 := by
  rw [Int32.lt_iff_toInt_lt, pk_sub_toInt hL (by decide), nI_toInt (by omega)]
  omega
theorem nI7 (n : Nat) : nI (7 * n) + 7 = nI (7 * (n + 1)) := by
  show nI (7 * n) + nI 7 = _
  rw [nI_add]
  rfl
set_option maxRecDepth 100000 in
set_option maxHeartbeats 4000000 in
theorem law_loop {X : mX} {l : Launch} {J : Nat → mM → Prop} (hJS : ∀ n M, J n M → Shp M) (hDef : ∀ n M, 7 * n + 7 ≤ xL X 0 → J n M → J (n + 1) M) (hP : ∀ n M, 7 * n + 7 ≤ xL X 0 → J n M → AllPr X l M (J (n + 1))) (hL : xL X 0 ≤ 3584) : ∀ (q n : Nat) (M : mM), n + q = 512 → J n M → G X l uLaw room_1 (40 * q) (400 * q) M 18 [some (.ref 0), some (.ref 3), some (.ref 169), some (.int (nI (7 * n)))] [] (fun r _ => r = some (.int 1)) := by
  intro q
  induction q with
  | zero =>
    intro n M hn hJ
    refine g_iload_n 18 dLaw_law_18 rfl ?_
    refine g_aload_n 19 dLaw_law_19 rfl ?_
    refine g_olen 20 (by decide) dLaw_law_20 ?_
    refine g_bipush 21 (nI 7) dLaw_law_21 rfl ?_
    refine g_isub 23 dLaw_law_23 ?_
    refine g_icmp_gt 24 1000 dLaw_law_24 rfl (fun h => ?_) (fun h => ?_)
    · refine g_iconst 1000 1 dLaw_law_1000 rfl ?_
      exact g_zret 1001 dLaw_law_1001 rfl (by decide) rfl
    · exact absurd ((cmp7 (by omega) (by omega)).mpr (by omega)) h
  | succ q IH =>
    intro n M hn hJ
    have ih : ∀ M2, J (n + 1) M2 → G X l uLaw room_1 (40 * q) (400 * q) M2 994 [some (.ref 0), some (.ref 3), some (.ref 169), some (.int (nI (7 * n)))] [] (fun r _ => r = some (.int 1)) := by
      intro M2 hJ2
      refine g_iinc 994 7 dLaw_law_994 rfl rfl (by decide) rfl ?_
      refine g_goto 997 18 dLaw_law_997 rfl ?_
      have := IH (n + 1) M2 (by omega) hJ2
      rw [nI7]
      exact this
    refine g_iload_n 18 dLaw_law_18 rfl ?_
    refine g_aload_n 19 dLaw_law_19 rfl ?_
    refine g_olen 20 (by decide) dLaw_law_20 ?_
    refine g_bipush 21 (nI 7) dLaw_law_21 rfl ?_
    refine g_isub 23 dLaw_law_23 ?_
    refine g_icmp_gt 24 1000 dLaw_law_24 rfl (fun h => ?_) (fun h => ?_)
    · refine g_iconst 1000 1 dLaw_law_1000 rfl ?_
      exact g_zret 1001 dLaw_law_1001 rfl (by decide) rfl
    have hle : 7 * n + 7 ≤ xL X 0 := Nat.le_of_not_lt fun z => h ((cmp7 (by omega) (by omega)).mpr z)
    have hA := hP n M hle hJ
    refine g_aload_n 27 dLaw_law_27 rfl ?_
    refine g_iload_n 28 dLaw_law_28 rfl ?_
    refine g_oaldN 29 (by decide) dLaw_law_29 (by omega) (by omega) ?_
    refine g_bipush 30 31 dLaw_law_30 rfl ?_
    refine g_iand 32 dLaw_law_32 ?_
    obtain ⟨j, hj, ej⟩ := pk_andE (xI X 0 (7 * n)) (m := 31) 5 rfl
    rw [ej]
    by_cases h16 : 16 < j
    · refine g_tableOut 33 994 dLaw_law_33 (Or.inr (by rw [nI_toInt (by omega)]; omega)) rfl ?_
      exact G.bud (40 * q) (400 * q) (by omega) (by omega) (ih M (hDef n M hle hJ))
    rcases (by omega : j = 0 ∨ j = 1 ∨ j = 2 ∨ j = 3 ∨ j = 4 ∨ j = 5 ∨ j = 6 ∨ j = 7 ∨ j = 8 ∨ j = 9 ∨ j = 10 ∨ j = 11 ∨ j = 12 ∨ j = 13 ∨ j = 14 ∨ j = 15 ∨ j = 16) with rfl | rfl | rfl | rfl | rfl | rfl | rfl | rfl | rfl | rfl | rfl | rfl | rfl | rfl | rfl | rfl | rfl
    · refine g_tableIn 33 116 dLaw_law_33 (by decide) (by decide) rfl rfl ?_
      exact g_law_0 (bc0 := 40 * q) (bs0 := 400 * q) hL (by omega) (by omega) (by omega) (hJS n M hJ) (hA.1 _ _ _ _) ih
    · refine g_tableIn 33 185 dLaw_law_33 (by decide) (by decide) rfl rfl ?_
      exact g_law_1 (bc0 := 40 * q) (bs0 := 400 * q) hL (by omega) (by omega) (by omega) (hJS n M hJ) (hA.2.1 _) ih
    · refine g_tableIn 33 224 dLaw_law_33 (by decide) (by decide) rfl rfl ?_
      exact g_law_2 (bc0 := 40 * q) (bs0 := 400 * q) hL (by omega) (by omega) (by omega) (hJS n M hJ) (hA.2.2.1 _ _) ih
    · refine g_tableIn 33 273 dLaw_law_33 (by decide) (by decide) rfl rfl ?_
      exact g_law_3 (bc0 := 40 * q) (bs0 := 400 * q) hL (by omega) (by omega) (by omega) (hJS n M hJ) (hA.2.2.2.1 _ _ _ _ _ _) ih
    · refine g_tableIn 33 384 dLaw_law_33 (by decide) (by decide) rfl rfl ?_
      exact g_law_4 (bc0 := 40 * q) (bs0 := 400 * q) hL (by omega) (by omega) (by omega) (hJS n M hJ) (hA.2.2.2.2.1 _ _) ih
    · refine g_tableIn 33 417 dLaw_law_33 (by decide) (by decide) rfl rfl ?_
      exact g_law_5 (bc0 := 40 * q) (bs0 := 400 * q) hL (by omega) (by omega) (by omega) (hJS n M hJ) (hA.2.2.2.2.2.1 _ _ _) ih
    · refine g_tableIn 33 461 dLaw_law_33 (by decide) (by decide) rfl rfl ?_
      exact g_law_6 (bc0 := 40 * q) (bs0 := 400 * q) hL (by omega) (by omega) (by omega) (hJS n M hJ) (hA.2.2.2.2.2.2.1 _ _ _) ih
    · refine g_tableIn 33 504 dLaw_law_33 (by decide) (by decide) rfl rfl ?_
      exact g_law_7 (bc0 := 40 * q) (bs0 := 400 * q) hL (by omega) (by omega) (by omega) (hJS n M hJ) (hA.2.2.2.2.2.2.2.1 _ _ _) ih
    · refine g_tableIn 33 547 dLaw_law_33 (by decide) (by decide) rfl rfl ?_
      exact g_law_8 (bc0 := 40 * q) (bs0 := 400 * q) hL (by omega) (by omega) (by omega) (hJS n M hJ) (hA.2.2.2.2.2.2.2.2.1 _) ih
    · refine g_tableIn 33 570 dLaw_law_33 (by decide) (by decide) rfl rfl ?_
      exact g_law_9 (bc0 := 40 * q) (bs0 := 400 * q) hL (by omega) (by omega) (by omega) (hJS n M hJ) (hA.2.2.2.2.2.2.2.2.2.1 _ _ _ _ _) ih
    · refine g_tableIn 33 649 dLaw_law_33 (by decide) (by decide) rfl rfl ?_
      exact g_law_10 (bc0 := 40 * q) (bs0 := 400 * q) hL (by omega) (by omega) (by omega) (hJS n M hJ) (hA.2.2.2.2.2.2.2.2.2.2.1 _ _ _) ih
    · refine g_tableIn 33 692 dLaw_law_33 (by decide) (by decide) rfl rfl ?_
      exact g_law_11 (bc0 := 40 * q) (bs0 := 400 * q) hL (by omega) (by omega) (by omega) (hJS n M hJ) (hA.2.2.2.2.2.2.2.2.2.2.2.1 _ _) ih
    · refine g_tableIn 33 725 dLaw_law_33 (by decide) (by decide) rfl rfl ?_
      exact g_law_12 (bc0 := 40 * q) (bs0 := 400 * q) hL (by omega) (by omega) (by omega) (hJS n M hJ) (hA.2.2.2.2.2.2.2.2.2.2.2.2.1 _ _ _) ih
    · refine g_tableIn 33 784 dLaw_law_33 (by decide) (by decide) rfl rfl ?_
      exact g_law_13 (bc0 := 40 * q) (bs0 := 400 * q) hL (by omega) (by omega) (by omega) (hJS n M hJ) (hA.2.2.2.2.2.2.2.2.2.2.2.2.2.1 _ _ _) ih
    · refine g_tableIn 33 843 dLaw_law_33 (by decide) (by decide) rfl rfl ?_
      exact g_law_14 (bc0 := 40 * q) (bs0 := 400 * q) hL (by omega) (by omega) (by omega) (hJS n M hJ) (hA.2.2.2.2.2.2.2.2.2.2.2.2.2.2.1 _ _ _ _) ih
    · refine g_tableIn 33 912 dLaw_law_33 (by decide) (by decide) rfl rfl ?_
      exact g_law_15 (bc0 := 40 * q) (bs0 := 400 * q) hL (by omega) (by omega) (by omega) (hJS n M hJ) (hA.2.2.2.2.2.2.2.2.2.2.2.2.2.2.2.1 _ _ _) ih
    · refine g_tableIn 33 971 dLaw_law_33 (by decide) (by decide) rfl rfl ?_
      exact g_law_16 (bc0 := 40 * q) (bs0 := 400 * q) hL (by omega) (by omega) (by omega) (hJS n M hJ) (hA.2.2.2.2.2.2.2.2.2.2.2.2.2.2.2.2 _) ih
set_option maxRecDepth 100000 in
theorem e169 : mN (mkLink (newM m00 0 1) 3) = 169 := by decide +kernel
set_option maxRecDepth 100000 in
set_option maxHeartbeats 4000000 in
theorem law_g {X : mX} {l : Launch} {J : Nat → mM → Prop} (hJS : ∀ n M, J n M → Shp M) (hDef : ∀ n M, 7 * n + 7 ≤ xL X 0 → J n M → J (n + 1) M) (hP : ∀ n M, 7 * n + 7 ≤ xL X 0 → J n M → AllPr X l M (J (n + 1))) (hL : xL X 0 ≤ 3584) (h0 : J 0 mi) : G X l uLaw room_1 600000 7302250 m00 0 [some (.ref 0), none, none, none] [] (fun r _ => r = some (.int 1)) := by
  refine g_new 0 0 1 dLaw_law_0 ns_Law_7 (Nat.le_of_ble_eq_true rfl) (Nat.le_of_ble_eq_true rfl) ?_
  refine g_dup 3 dLaw_law_3 rfl ?_
  refine g_callI 4 [] dLaw_law_4 cs_Law_9 rfl rfl ⟨(Nat.le_of_ble_eq_true rfl), (Nat.le_of_ble_eq_true rfl)⟩ (Nat.le_of_ble_eq_true rfl) (ct_Link_init nT) (Nat.le_of_ble_eq_true rfl) (Nat.le_of_ble_eq_true rfl) ?_
  rintro _ _ ⟨rfl, rfl⟩
  refine g_astore_n 7 dLaw_law_7 (by decide) rfl ?_
  refine g_new 8 10 56 dLaw_law_8 ns_Law_10 (Nat.le_of_ble_eq_true rfl) (Nat.le_of_ble_eq_true rfl) ?_
  refine g_dup 11 dLaw_law_11 rfl ?_
  refine g_callI 12 [] dLaw_law_12 cs_Law_12 rfl rfl ⟨(Nat.le_of_ble_eq_true rfl), (Nat.le_of_ble_eq_true rfl)⟩ (Nat.le_of_ble_eq_true rfl) (ct_Mod_init nT) (Nat.le_of_ble_eq_true rfl) (Nat.le_of_ble_eq_true rfl) ?_
  rintro _ _ ⟨rfl, rfl⟩
  refine g_astore_n 15 dLaw_law_15 (by decide) rfl ?_
  refine g_iconst 16 (nI (7 * 0)) dLaw_law_16 rfl ?_
  refine g_istore_n 17 dLaw_law_17 (by decide) rfl ?_
  refine G.bud (40 * 512) (400 * 512) (Nat.le_of_ble_eq_true rfl) (Nat.le_of_ble_eq_true rfl) ?_
  show G X l uLaw room_1 (40 * 512) (400 * 512) (mkMod (newM (mkLink (newM m00 0 1) 3) 10 56) (mN (mkLink (newM m00 0 1) 3))) 18 [some (.ref 0), some (.ref 3), some (.ref (mN (mkLink (newM m00 0 1) 3))), some (.int (nI (7 * 0)))] [] (fun r _ => r = some (.int 1))
  rw [e169]
  exact law_loop hJS hDef hP hL 512 0 mi rfl h0
/-! THE CLAIM OUT OF ONE WALK OF THE LAW'S BODY. Your part is whole_start (and what it stands on); all else here is the same for every law, but numbers. -/
def R_law : String := "InterleavedLinkLaw"
def lw_P (b : Addr) (xs : List Int32) (args : Array Value) (s : State) : Prop := args = #[.ref b] ∧ s.IntsAt b xs ∧ xs.length ≤ 3584 ∧ (Jvm.Cond.and given_1 narrow_1).before args s = true
def lw_Q (_ : Array Value) (s : State) (o : Outcome) (t : State) : Prop := o = .returned (some (.int 1)) ∧ Framed s o t [] 600000 7302250
def lw_Z (below : List Frame) (a : Array Value) (s : State) : State → Prop := fun t => ∃ o, t.status = .running ∧ Ended t below o ∧ lw_Q a s o t
/-- the law's own end, with 1 on the stack, nothing written that was there before, its room as the claim has it -/
theorem lw_ret {p : Program} {l : Launch} {e : Env} {s : State} {m : MethodId} {below : List Frame} {meth : Method} {c : Code} {b : Nat} (hx : p.tables.exec = Jvm.exec) (hb : c.code = code) (hr : meth.sig.returnType = ret) (hlocks : meth.locks = false) {pc : Nat} {H : Heap} {ls : Array Slot} (hdg : decode code pc = .ok (.ireturn, 1)) : W p l e room_1 s m #[Value.ref b] below meth c H [] 600000 7302250 (lw_Z below #[Value.ref b] s) (F0 m pc ls [.int 1]) := by
  intro T hT X
  obtain ⟨fs, hret, hrun, hended, hW, hframe⟩ := X.leave (v := some (.int 1)) (hlocks := hlocks) (fun h => by rw [hr] at h; cases h)
  have hmeth' : T.vm.method? m = some meth := X.method'
  refine ⟨T.setFrames fs, ?_, .returned (some (.int 1)), hrun, hended, rfl, ⟨_, rfl⟩, hW, hframe⟩
  jvm_step X.here [X.here.top, hx, hb, hdg, hmeth', hr, ret, narrow_b1]
  (try refine ⟨rfl, ?_⟩); (try refine ⟨rfl, ?_⟩)
  first | (intro acts; rw [hret _ acts rfl rfl rfl]) | rw [hret _ _ rfl rfl rfl]
  exact Steps.refl _
/-- what holds at the law's entry: the machine, the code, the tables' words (any of lw_tbl by 'hts w (by decide +kernel)'), the script of L ints xs at the cell b, what the Statement gives of the start (any of its parts by flat_of_before) -/
def lw_At (p : Program) (s : State) (m : MethodId) (meth : Method) (c : Code) (b L : Nat) (xs : Nat → Int32) : Prop :=
  p.tables.exec = Jvm.exec ∧ c.code = code ∧ meth.sig.returnType = ret ∧ c.maxLocals = 4 ∧ s.vm.findClass R_law = some m.cls ∧ (∀ w ∈ lw_tbl, w.before #[Value.ref b] s = true) ∧ va_X b L xs s s.heap ∧ b < s.heap.size ∧ meth.locks = false ∧ (Jvm.Cond.and given_1 narrow_1).before #[Value.ref b] s = true ∧ (Jvm.Cond.code x code maxLocals ret).before #[Value.ref b] s = true ∧ meth.name = "law"
set_option maxRecDepth 100000 in
set_option maxHeartbeats 4000000 in
/-- the law comes to its end with true, if every pair of calls answers alike -/
theorem whole_start_open {p : Program} {e : Env} {s : State} {m : MethodId} {below : List Frame} {meth : Method} {c : Code} (l : Launch) {b L : Nat} {xs : Nat → Int32} (hL : L ≤ 3584) {J : Nat → mM → Prop} (hJS : ∀ n M, J n M → Shp M) (hDef : ∀ n M, 7 * n + 7 ≤ L → J n M → J (n + 1) M) (hP : ∀ X : mX, xL X 1 = 6 → xI X 1 = fixN → xL X 2 = 6 → xI X 2 = fixV → ∀ n M, 7 * n + 7 ≤ L → J n M → AllPr X l M (J (n + 1))) (h0 : J 0 mi) (C0 : lw_At p s m meth c b L xs) : W p l e room_1 s m #[Value.ref b] below meth c s.heap [] 0 0 (lw_Z below #[Value.ref b] s) (entryFrame m ([Value.ref b] : List Value).toArray 4) := by
  obtain ⟨hx, hb, hr, hml, hown, hts, hX, hbl, hlk, hgv, hcw, hnm⟩ := C0
  obtain ⟨X, F, hM, hB, hO, hXL, hXI, x1, x2, x3, x4⟩ := st_env hx hb hr hml hown hts hcw hX hbl hlk hnm hgv
  have g := law_g (X := X) (l := l) hJS (fun n M hn => hDef n M (by rw [← hXL]; exact hn)) (fun n M hn => hP X x1 x2 x3 x4 n M (by rw [← hXL]; exact hn)) (by rw [hXL]; exact hL) h0
  rw [lg_entry_eq]
  have hl := LR.entry X [.ref 0] 4 (Nat.le_of_ble_eq_true rfl)
  have hb0 : rel X (.ref 0) = .ref b := by show Value.ref (adr X 0) = _; rw [adr_old X (by decide), hO]
  have hmap : ([Value.ref 0] : List Value).map (rel X) = [.ref b] := by show [rel X (.ref 0)] = _; rw [hb0]
  rw [hmap] at hl
  have w := g p e s m #[Value.ref b] below meth c s.heap [] 0 0 _ F hM va_S.rf (Nat.le_refl _) (Nat.le_refl _) hl
  intro T hT S
  obtain ⟨t, st, o, h1, h2, ⟨⟨⟨r, M', ho, hq, -, -⟩, -⟩, L', hE, hL'⟩⟩ := w T hT S
  subst hq
  refine ⟨t, st, o, h1, h2, ho, ?_⟩
  exact ⟨hE.1, hE.2.1, hE.2.2.weaken (fun y hy hlt => absurd hlt (Nat.not_lt.mpr (by rw [← hB]; exact hL' y hy))) (Nat.le_refl _) (Nat.le_refl _)⟩
end
section

/-! ===== where the class's own cells lie ===== -/
set_option maxRecDepth 100000 in
set_option maxHeartbeats 4000000 in
theorem mi_E0 : ∀ e, e < 2 → mT mi (9 + 80 * e) = (2, 17) := by decide +kernel
set_option maxRecDepth 100000 in
set_option maxHeartbeats 4000000 in
theorem mi_E1 : ∀ e, e < 2 → mT mi (10 + 80 * e) = (3, 4) := by decide +kernel
set_option maxRecDepth 100000 in
set_option maxHeartbeats 4000000 in
theorem mi_E2 : ∀ e, e < 2 → mT mi (11 + 80 * e) = (100, 6) := by decide +kernel
set_option maxRecDepth 100000 in
set_option maxHeartbeats 4000000 in
theorem mi_E3 : ∀ e, e < 2 → mT mi (12 + 80 * e) = (100, 6) := by decide +kernel
set_option maxRecDepth 100000 in
set_option maxHeartbeats 4000000 in
theorem mi_E4 : ∀ e, e < 2 → mT mi (13 + 80 * e) = (102, 6) := by decide +kernel
set_option maxRecDepth 100000 in
set_option maxHeartbeats 4000000 in
theorem mi_E5 : ∀ e, e < 2 → mT mi (14 + 80 * e) = (4, 4) := by decide +kernel
set_option maxRecDepth 100000 in
set_option maxHeartbeats 4000000 in
theorem mi_E6 : ∀ e, e < 2 → mT mi (15 + 80 * e) = (5, 6) := by decide +kernel
set_option maxRecDepth 100000 in
set_option maxHeartbeats 4000000 in
theorem mi_E7 : ∀ e, e < 2 → mT mi (16 + 80 * e) = (100, 5) := by decide +kernel
set_option maxRecDepth 100000 in
set_option maxHeartbeats 4000000 in
theorem mi_E8 : ∀ e, e < 2 → mT mi (17 + 80 * e) = (100, 5) := by decide +kernel
set_option maxRecDepth 100000 in
set_option maxHeartbeats 4000000 in
theorem mi_E9 : ∀ e, e < 2 → mT mi (18 + 80 * e) = (100, 5) := by decide +kernel
set_option maxRecDepth 100000 in
set_option maxHeartbeats 4000000 in
theorem mi_E10 : ∀ e, e < 2 → mT mi (19 + 80 * e) = (6, 2) := by decide +kernel
set_option maxRecDepth 100000 in
set_option maxHeartbeats 4000000 in
theorem mi_E11 : ∀ e, e < 2 → mT mi (20 + 80 * e) = (5, 6) := by decide +kernel
set_option maxRecDepth 100000 in
set_option maxHeartbeats 4000000 in
theorem mi_E12 : ∀ e, e < 2 → mT mi (21 + 80 * e) = (100, 5) := by decide +kernel
set_option maxRecDepth 100000 in
set_option maxHeartbeats 4000000 in
theorem mi_E13 : ∀ e, e < 2 → mT mi (22 + 80 * e) = (100, 5) := by decide +kernel
set_option maxRecDepth 100000 in
set_option maxHeartbeats 4000000 in
theorem mi_E14 : ∀ e, e < 2 → mT mi (23 + 80 * e) = (100, 5) := by decide +kernel
set_option maxRecDepth 100000 in
set_option maxHeartbeats 4000000 in
theorem mi_E15 : ∀ e, e < 2 → mT mi (24 + 80 * e) = (105, 12) := by decide +kernel
set_option maxRecDepth 100000 in
set_option maxHeartbeats 4000000 in
theorem mi_E16 : ∀ e, e < 2 → mT mi (25 + 80 * e) = (7, 3) := by decide +kernel
set_option maxRecDepth 100000 in
set_option maxHeartbeats 4000000 in
theorem mi_E17 : ∀ e, e < 2 → mT mi (26 + 80 * e) = (7, 3) := by decide +kernel
set_option maxRecDepth 100000 in
set_option maxHeartbeats 4000000 in
theorem mi_E18 : ∀ e, e < 2 → mT mi (27 + 80 * e) = (100, 8) := by decide +kernel
set_option maxRecDepth 100000 in
set_option maxHeartbeats 4000000 in
theorem mi_E19 : ∀ e, e < 2 → mT mi (28 + 80 * e) = (100, 8) := by decide +kernel
set_option maxRecDepth 100000 in
set_option maxHeartbeats 4000000 in
theorem mi_E20 : ∀ e, e < 2 → mT mi (4 + 2 * e) = (1, 3) := by decide +kernel
set_option maxRecDepth 100000 in
set_option maxHeartbeats 4000000 in
theorem mi_E21 : ∀ e, e < 2 → mT mi (5 + 2 * e) = (104, 48) := by decide +kernel
set_option maxRecDepth 100000 in
set_option maxHeartbeats 4000000 in
theorem mi_R0 : ∀ e, e < 2 → mR mi (9 + 80 * e) 1 = some (4 + 2 * e) := by decide +kernel
set_option maxRecDepth 100000 in
set_option maxHeartbeats 4000000 in
theorem mi_R1 : ∀ e, e < 2 → mR mi (9 + 80 * e) 6 = some (10 + 80 * e) := by decide +kernel
set_option maxRecDepth 100000 in
set_option maxHeartbeats 4000000 in
theorem mi_R2 : ∀ e, e < 2 → mR mi (9 + 80 * e) 7 = some (14 + 80 * e) := by decide +kernel
set_option maxRecDepth 100000 in
set_option maxHeartbeats 4000000 in
theorem mi_R3 : ∀ e, e < 2 → mR mi (9 + 80 * e) 8 = some (19 + 80 * e) := by decide +kernel
set_option maxRecDepth 100000 in
set_option maxHeartbeats 4000000 in
theorem mi_R4 : ∀ e, e < 2 → mR mi (9 + 80 * e) 9 = some (24 + 80 * e) := by decide +kernel
set_option maxRecDepth 100000 in
set_option maxHeartbeats 4000000 in
theorem mi_R5 : ∀ e, e < 2 → mR mi (9 + 80 * e) 10 = some (25 + 80 * e) := by decide +kernel
set_option maxRecDepth 100000 in
set_option maxHeartbeats 4000000 in
theorem mi_R6 : ∀ e, e < 2 → mR mi (9 + 80 * e) 11 = some (26 + 80 * e) := by decide +kernel
set_option maxRecDepth 100000 in
set_option maxHeartbeats 4000000 in
theorem mi_R7 : ∀ e, e < 2 → mR mi (9 + 80 * e) 12 = some (27 + 80 * e) := by decide +kernel
set_option maxRecDepth 100000 in
set_option maxHeartbeats 4000000 in
theorem mi_R8 : ∀ e, e < 2 → mR mi (9 + 80 * e) 13 = some (28 + 80 * e) := by decide +kernel
set_option maxRecDepth 100000 in
set_option maxHeartbeats 4000000 in
theorem mi_R9 : ∀ e, e < 2 → mR mi (10 + 80 * e) 0 = some (11 + 80 * e) := by decide +kernel
set_option maxRecDepth 100000 in
set_option maxHeartbeats 4000000 in
theorem mi_R10 : ∀ e, e < 2 → mR mi (10 + 80 * e) 1 = some (12 + 80 * e) := by decide +kernel
set_option maxRecDepth 100000 in
set_option maxHeartbeats 4000000 in
theorem mi_R11 : ∀ e, e < 2 → mR mi (10 + 80 * e) 2 = some (13 + 80 * e) := by decide +kernel
set_option maxRecDepth 100000 in
set_option maxHeartbeats 4000000 in
theorem mi_R12 : ∀ e, e < 2 → mR mi (14 + 80 * e) 0 = some (15 + 80 * e) := by decide +kernel
set_option maxRecDepth 100000 in
set_option maxHeartbeats 4000000 in
theorem mi_R13 : ∀ e, e < 2 → mR mi (15 + 80 * e) 0 = some (16 + 80 * e) := by decide +kernel
set_option maxRecDepth 100000 in
set_option maxHeartbeats 4000000 in
theorem mi_R14 : ∀ e, e < 2 → mR mi (15 + 80 * e) 1 = some (17 + 80 * e) := by decide +kernel
set_option maxRecDepth 100000 in
set_option maxHeartbeats 4000000 in
theorem mi_R15 : ∀ e, e < 2 → mR mi (15 + 80 * e) 2 = some (18 + 80 * e) := by decide +kernel
set_option maxRecDepth 100000 in
set_option maxHeartbeats 4000000 in
theorem mi_R16 : ∀ e, e < 2 → mR mi (19 + 80 * e) 0 = some (20 + 80 * e) := by decide +kernel
set_option maxRecDepth 100000 in
set_option maxHeartbeats 4000000 in
theorem mi_R17 : ∀ e, e < 2 → mR mi (20 + 80 * e) 0 = some (21 + 80 * e) := by decide +kernel
set_option maxRecDepth 100000 in
set_option maxHeartbeats 4000000 in
theorem mi_R18 : ∀ e, e < 2 → mR mi (20 + 80 * e) 1 = some (22 + 80 * e) := by decide +kernel
set_option maxRecDepth 100000 in
set_option maxHeartbeats 4000000 in
theorem mi_R19 : ∀ e, e < 2 → mR mi (20 + 80 * e) 2 = some (23 + 80 * e) := by decide +kernel
set_option maxRecDepth 100000 in
set_option maxHeartbeats 4000000 in
theorem mi_R20 : ∀ e, e < 2 → mR mi (4 + 2 * e) 0 = some (5 + 2 * e) := by decide +kernel
set_option maxRecDepth 100000 in
set_option maxHeartbeats 4000000 in
theorem mi_RO : ∀ e, e < 2 → mR mi (9 + 80 * e) 2 = some (6 - 2 * e) := by decide +kernel
set_option maxRecDepth 100000 in
set_option maxHeartbeats 4000000 in
theorem mi_S0 : ∀ e, e < 2 → ∀ k, k < 12 → mT mi (29 + 80 * e + 5 * k) = (8, 10) := by decide +kernel
set_option maxRecDepth 100000 in
set_option maxHeartbeats 4000000 in
theorem mi_S1 : ∀ e, e < 2 → ∀ k, k < 12 → mT mi (30 + 80 * e + 5 * k) = (9, 2) := by decide +kernel
set_option maxRecDepth 100000 in
set_option maxHeartbeats 4000000 in
theorem mi_S2 : ∀ e, e < 2 → ∀ k, k < 12 → mT mi (31 + 80 * e + 5 * k) = (101, 32) := by decide +kernel
set_option maxRecDepth 100000 in
set_option maxHeartbeats 4000000 in
theorem mi_S3 : ∀ e, e < 2 → ∀ k, k < 12 → mT mi (32 + 80 * e + 5 * k) = (9, 2) := by decide +kernel
set_option maxRecDepth 100000 in
set_option maxHeartbeats 4000000 in
theorem mi_S4 : ∀ e, e < 2 → ∀ k, k < 12 → mT mi (33 + 80 * e + 5 * k) = (101, 40) := by decide +kernel
set_option maxRecDepth 100000 in
set_option maxHeartbeats 4000000 in
theorem mi_Q0 : ∀ e, e < 2 → ∀ k, k < 12 → mR mi (29 + 80 * e + 5 * k) 8 = some (30 + 80 * e + 5 * k) := by decide +kernel
set_option maxRecDepth 100000 in
set_option maxHeartbeats 4000000 in
theorem mi_Q1 : ∀ e, e < 2 → ∀ k, k < 12 → mR mi (29 + 80 * e + 5 * k) 9 = some (32 + 80 * e + 5 * k) := by decide +kernel
set_option maxRecDepth 100000 in
set_option maxHeartbeats 4000000 in
theorem mi_Q2 : ∀ e, e < 2 → ∀ k, k < 12 → mR mi (30 + 80 * e + 5 * k) 0 = some (31 + 80 * e + 5 * k) := by decide +kernel
set_option maxRecDepth 100000 in
set_option maxHeartbeats 4000000 in
theorem mi_Q3 : ∀ e, e < 2 → ∀ k, k < 12 → mR mi (32 + 80 * e + 5 * k) 0 = some (33 + 80 * e + 5 * k) := by decide +kernel
set_option maxRecDepth 100000 in
set_option maxHeartbeats 4000000 in
theorem mi_RS : ∀ e, e < 2 → ∀ k, k < 12 → mR mi (24 + 80 * e) k = some (29 + 80 * e + 5 * k) := by decide +kernel
set_option maxRecDepth 100000 in
set_option maxHeartbeats 4000000 in
theorem mi_num : ∀ e, e < 2 → ∀ k, k < 12 → mI mi (29 + 80 * e + 5 * k) 0 = nI (2 * k + 1) := by decide +kernel
set_option maxRecDepth 100000 in
set_option maxHeartbeats 4000000 in
theorem mi_L : mT mi 8 = (106, 2) ∧ mR mi 3 0 = some 8 ∧ ∀ e, e < 2 → mR mi 8 e = some (9 + 80 * e) := by decide +kernel
theorem Shp.TEnd {M : mM} (h : Shp M) {e : Nat} (he : e < 2) : mT M (9 + 80 * e) = (2, 17) := by rw [h.2.1 _ (by omega)]; exact mi_E0 e he
theorem Shp.tEnd {M : mM} (h : Shp M) {e : Nat} (he : e < 2) : (mT M (9 + 80 * e)).1 = 2 := by rw [h.TEnd he]
theorem Shp.TFL {M : mM} (h : Shp M) {e : Nat} (he : e < 2) : mT M (10 + 80 * e) = (3, 4) := by rw [h.2.1 _ (by omega)]; exact mi_E1 e he
theorem Shp.tFL {M : mM} (h : Shp M) {e : Nat} (he : e < 2) : (mT M (10 + 80 * e)).1 = 3 := by rw [h.TFL he]
theorem Shp.TFLn {M : mM} (h : Shp M) {e : Nat} (he : e < 2) : mT M (11 + 80 * e) = (100, 6) := by rw [h.2.1 _ (by omega)]; exact mi_E2 e he
theorem Shp.TFLv {M : mM} (h : Shp M) {e : Nat} (he : e < 2) : mT M (12 + 80 * e) = (100, 6) := by rw [h.2.1 _ (by omega)]; exact mi_E3 e he
theorem Shp.TFLs {M : mM} (h : Shp M) {e : Nat} (he : e < 2) : mT M (13 + 80 * e) = (102, 6) := by rw [h.2.1 _ (by omega)]; exact mi_E4 e he
theorem Shp.TEnc {M : mM} (h : Shp M) {e : Nat} (he : e < 2) : mT M (14 + 80 * e) = (4, 4) := by rw [h.2.1 _ (by omega)]; exact mi_E5 e he
theorem Shp.tEnc {M : mM} (h : Shp M) {e : Nat} (he : e < 2) : (mT M (14 + 80 * e)).1 = 4 := by rw [h.TEnc he]
theorem Shp.TTabE {M : mM} (h : Shp M) {e : Nat} (he : e < 2) : mT M (15 + 80 * e) = (5, 6) := by rw [h.2.1 _ (by omega)]; exact mi_E6 e he
theorem Shp.tTabE {M : mM} (h : Shp M) {e : Nat} (he : e < 2) : (mT M (15 + 80 * e)).1 = 5 := by rw [h.TTabE he]
theorem Shp.TTEn {M : mM} (h : Shp M) {e : Nat} (he : e < 2) : mT M (16 + 80 * e) = (100, 5) := by rw [h.2.1 _ (by omega)]; exact mi_E7 e he
theorem Shp.TTEv {M : mM} (h : Shp M) {e : Nat} (he : e < 2) : mT M (17 + 80 * e) = (100, 5) := by rw [h.2.1 _ (by omega)]; exact mi_E8 e he
theorem Shp.TTEs {M : mM} (h : Shp M) {e : Nat} (he : e < 2) : mT M (18 + 80 * e) = (100, 5) := by rw [h.2.1 _ (by omega)]; exact mi_E9 e he
theorem Shp.TDec {M : mM} (h : Shp M) {e : Nat} (he : e < 2) : mT M (19 + 80 * e) = (6, 2) := by rw [h.2.1 _ (by omega)]; exact mi_E10 e he
theorem Shp.tDec {M : mM} (h : Shp M) {e : Nat} (he : e < 2) : (mT M (19 + 80 * e)).1 = 6 := by rw [h.TDec he]
theorem Shp.TTabD {M : mM} (h : Shp M) {e : Nat} (he : e < 2) : mT M (20 + 80 * e) = (5, 6) := by rw [h.2.1 _ (by omega)]; exact mi_E11 e he
theorem Shp.tTabD {M : mM} (h : Shp M) {e : Nat} (he : e < 2) : (mT M (20 + 80 * e)).1 = 5 := by rw [h.TTabD he]
theorem Shp.TTDn {M : mM} (h : Shp M) {e : Nat} (he : e < 2) : mT M (21 + 80 * e) = (100, 5) := by rw [h.2.1 _ (by omega)]; exact mi_E12 e he
theorem Shp.TTDv {M : mM} (h : Shp M) {e : Nat} (he : e < 2) : mT M (22 + 80 * e) = (100, 5) := by rw [h.2.1 _ (by omega)]; exact mi_E13 e he
theorem Shp.TTDs {M : mM} (h : Shp M) {e : Nat} (he : e < 2) : mT M (23 + 80 * e) = (100, 5) := by rw [h.2.1 _ (by omega)]; exact mi_E14 e he
theorem Shp.TStrs {M : mM} (h : Shp M) {e : Nat} (he : e < 2) : mT M (24 + 80 * e) = (105, 12) := by rw [h.2.1 _ (by omega)]; exact mi_E15 e he
theorem Shp.TTold {M : mM} (h : Shp M) {e : Nat} (he : e < 2) : mT M (25 + 80 * e) = (7, 3) := by rw [h.2.1 _ (by omega)]; exact mi_E16 e he
theorem Shp.tTold {M : mM} (h : Shp M) {e : Nat} (he : e < 2) : (mT M (25 + 80 * e)).1 = 7 := by rw [h.TTold he]
theorem Shp.TForce {M : mM} (h : Shp M) {e : Nat} (he : e < 2) : mT M (26 + 80 * e) = (7, 3) := by rw [h.2.1 _ (by omega)]; exact mi_E17 e he
theorem Shp.tForce {M : mM} (h : Shp M) {e : Nat} (he : e < 2) : (mT M (26 + 80 * e)).1 = 7 := by rw [h.TForce he]
theorem Shp.TPS {M : mM} (h : Shp M) {e : Nat} (he : e < 2) : mT M (27 + 80 * e) = (100, 8) := by rw [h.2.1 _ (by omega)]; exact mi_E18 e he
theorem Shp.TPV {M : mM} (h : Shp M) {e : Nat} (he : e < 2) : mT M (28 + 80 * e) = (100, 8) := by rw [h.2.1 _ (by omega)]; exact mi_E19 e he
theorem Shp.TPipe {M : mM} (h : Shp M) {e : Nat} (he : e < 2) : mT M (4 + 2 * e) = (1, 3) := by rw [h.2.1 _ (by omega)]; exact mi_E20 e he
theorem Shp.tPipe {M : mM} (h : Shp M) {e : Nat} (he : e < 2) : (mT M (4 + 2 * e)).1 = 1 := by rw [h.TPipe he]
theorem Shp.TRow {M : mM} (h : Shp M) {e : Nat} (he : e < 2) : mT M (5 + 2 * e) = (104, 48) := by rw [h.2.1 _ (by omega)]; exact mi_E21 e he
theorem Shp.rEnd1 {M : mM} (h : Shp M) {e : Nat} (he : e < 2) : mR M (9 + 80 * e) 1 = some (4 + 2 * e) := by rw [h.2.2 _ 1 (by omega) (by unfold mvR; omega)]; exact mi_R0 e he
theorem Shp.rEnd6 {M : mM} (h : Shp M) {e : Nat} (he : e < 2) : mR M (9 + 80 * e) 6 = some (10 + 80 * e) := by rw [h.2.2 _ 6 (by omega) (by unfold mvR; omega)]; exact mi_R1 e he
theorem Shp.rEnd7 {M : mM} (h : Shp M) {e : Nat} (he : e < 2) : mR M (9 + 80 * e) 7 = some (14 + 80 * e) := by rw [h.2.2 _ 7 (by omega) (by unfold mvR; omega)]; exact mi_R2 e he
theorem Shp.rEnd8 {M : mM} (h : Shp M) {e : Nat} (he : e < 2) : mR M (9 + 80 * e) 8 = some (19 + 80 * e) := by rw [h.2.2 _ 8 (by omega) (by unfold mvR; omega)]; exact mi_R3 e he
theorem Shp.rEnd9 {M : mM} (h : Shp M) {e : Nat} (he : e < 2) : mR M (9 + 80 * e) 9 = some (24 + 80 * e) := by rw [h.2.2 _ 9 (by omega) (by unfold mvR; omega)]; exact mi_R4 e he
theorem Shp.rEnd10 {M : mM} (h : Shp M) {e : Nat} (he : e < 2) : mR M (9 + 80 * e) 10 = some (25 + 80 * e) := by rw [h.2.2 _ 10 (by omega) (by unfold mvR; omega)]; exact mi_R5 e he
theorem Shp.rEnd11 {M : mM} (h : Shp M) {e : Nat} (he : e < 2) : mR M (9 + 80 * e) 11 = some (26 + 80 * e) := by rw [h.2.2 _ 11 (by omega) (by unfold mvR; omega)]; exact mi_R6 e he
theorem Shp.rEnd12 {M : mM} (h : Shp M) {e : Nat} (he : e < 2) : mR M (9 + 80 * e) 12 = some (27 + 80 * e) := by rw [h.2.2 _ 12 (by omega) (by unfold mvR; omega)]; exact mi_R7 e he
theorem Shp.rEnd13 {M : mM} (h : Shp M) {e : Nat} (he : e < 2) : mR M (9 + 80 * e) 13 = some (28 + 80 * e) := by rw [h.2.2 _ 13 (by omega) (by unfold mvR; omega)]; exact mi_R8 e he
theorem Shp.rFL0 {M : mM} (h : Shp M) {e : Nat} (he : e < 2) : mR M (10 + 80 * e) 0 = some (11 + 80 * e) := by rw [h.2.2 _ 0 (by omega) (by unfold mvR; omega)]; exact mi_R9 e he
theorem Shp.rFL1 {M : mM} (h : Shp M) {e : Nat} (he : e < 2) : mR M (10 + 80 * e) 1 = some (12 + 80 * e) := by rw [h.2.2 _ 1 (by omega) (by unfold mvR; omega)]; exact mi_R10 e he
theorem Shp.rFL2 {M : mM} (h : Shp M) {e : Nat} (he : e < 2) : mR M (10 + 80 * e) 2 = some (13 + 80 * e) := by rw [h.2.2 _ 2 (by omega) (by unfold mvR; omega)]; exact mi_R11 e he
theorem Shp.rEnc0 {M : mM} (h : Shp M) {e : Nat} (he : e < 2) : mR M (14 + 80 * e) 0 = some (15 + 80 * e) := by rw [h.2.2 _ 0 (by omega) (by unfold mvR; omega)]; exact mi_R12 e he
theorem Shp.rTabE0 {M : mM} (h : Shp M) {e : Nat} (he : e < 2) : mR M (15 + 80 * e) 0 = some (16 + 80 * e) := by rw [h.2.2 _ 0 (by omega) (by unfold mvR; omega)]; exact mi_R13 e he
theorem Shp.rTabE1 {M : mM} (h : Shp M) {e : Nat} (he : e < 2) : mR M (15 + 80 * e) 1 = some (17 + 80 * e) := by rw [h.2.2 _ 1 (by omega) (by unfold mvR; omega)]; exact mi_R14 e he
theorem Shp.rTabE2 {M : mM} (h : Shp M) {e : Nat} (he : e < 2) : mR M (15 + 80 * e) 2 = some (18 + 80 * e) := by rw [h.2.2 _ 2 (by omega) (by unfold mvR; omega)]; exact mi_R15 e he
theorem Shp.rDec0 {M : mM} (h : Shp M) {e : Nat} (he : e < 2) : mR M (19 + 80 * e) 0 = some (20 + 80 * e) := by rw [h.2.2 _ 0 (by omega) (by unfold mvR; omega)]; exact mi_R16 e he
theorem Shp.rTabD0 {M : mM} (h : Shp M) {e : Nat} (he : e < 2) : mR M (20 + 80 * e) 0 = some (21 + 80 * e) := by rw [h.2.2 _ 0 (by omega) (by unfold mvR; omega)]; exact mi_R17 e he
theorem Shp.rTabD1 {M : mM} (h : Shp M) {e : Nat} (he : e < 2) : mR M (20 + 80 * e) 1 = some (22 + 80 * e) := by rw [h.2.2 _ 1 (by omega) (by unfold mvR; omega)]; exact mi_R18 e he
theorem Shp.rTabD2 {M : mM} (h : Shp M) {e : Nat} (he : e < 2) : mR M (20 + 80 * e) 2 = some (23 + 80 * e) := by rw [h.2.2 _ 2 (by omega) (by unfold mvR; omega)]; exact mi_R19 e he
theorem Shp.rPipe0 {M : mM} (h : Shp M) {e : Nat} (he : e < 2) : mR M (4 + 2 * e) 0 = some (5 + 2 * e) := by rw [h.2.2 _ 0 (by omega) (by unfold mvR; omega)]; exact mi_R20 e he
theorem Shp.rEnd2 {M : mM} (h : Shp M) {e : Nat} (he : e < 2) : mR M (9 + 80 * e) 2 = some (6 - 2 * e) := by rw [h.2.2 _ 2 (by omega) (by unfold mvR; omega)]; exact mi_RO e he
theorem Shp.TPipeO {M : mM} (h : Shp M) {e : Nat} (he : e < 2) : mT M (6 - 2 * e) = (1, 3) := by have := h.TPipe (e := 1 - e) (by omega); rwa [show 4 + 2 * (1 - e) = 6 - 2 * e by omega] at this
theorem Shp.tPipeO {M : mM} (h : Shp M) {e : Nat} (he : e < 2) : (mT M (6 - 2 * e)).1 = 1 := by rw [h.TPipeO he]
theorem Shp.rPipeO0 {M : mM} (h : Shp M) {e : Nat} (he : e < 2) : mR M (6 - 2 * e) 0 = some (7 - 2 * e) := by have := h.rPipe0 (e := 1 - e) (by omega); rwa [show 4 + 2 * (1 - e) = 6 - 2 * e by omega, show 5 + 2 * (1 - e) = 7 - 2 * e by omega] at this
theorem Shp.TRowO {M : mM} (h : Shp M) {e : Nat} (he : e < 2) : mT M (7 - 2 * e) = (104, 48) := by have := h.TRow (e := 1 - e) (by omega); rwa [show 5 + 2 * (1 - e) = 7 - 2 * e by omega] at this
theorem Shp.TStr {M : mM} (h : Shp M) {e k : Nat} (he : e < 2) (hk : k < 12) : mT M (29 + 80 * e + 5 * k) = (8, 10) := by rw [h.2.1 _ (by omega)]; exact mi_S0 e he k hk
theorem Shp.tStr {M : mM} (h : Shp M) {e k : Nat} (he : e < 2) (hk : k < 12) : (mT M (29 + 80 * e + 5 * k)).1 = 8 := by rw [h.TStr he hk]
theorem Shp.TWt {M : mM} (h : Shp M) {e k : Nat} (he : e < 2) (hk : k < 12) : mT M (30 + 80 * e + 5 * k) = (9, 2) := by rw [h.2.1 _ (by omega)]; exact mi_S1 e he k hk
theorem Shp.tWt {M : mM} (h : Shp M) {e k : Nat} (he : e < 2) (hk : k < 12) : (mT M (30 + 80 * e + 5 * k)).1 = 9 := by rw [h.TWt he hk]
theorem Shp.TWtR {M : mM} (h : Shp M) {e k : Nat} (he : e < 2) (hk : k < 12) : mT M (31 + 80 * e + 5 * k) = (101, 32) := by rw [h.2.1 _ (by omega)]; exact mi_S2 e he k hk
theorem Shp.TUr {M : mM} (h : Shp M) {e k : Nat} (he : e < 2) (hk : k < 12) : mT M (32 + 80 * e + 5 * k) = (9, 2) := by rw [h.2.1 _ (by omega)]; exact mi_S3 e he k hk
theorem Shp.tUr {M : mM} (h : Shp M) {e k : Nat} (he : e < 2) (hk : k < 12) : (mT M (32 + 80 * e + 5 * k)).1 = 9 := by rw [h.TUr he hk]
theorem Shp.TUrR {M : mM} (h : Shp M) {e k : Nat} (he : e < 2) (hk : k < 12) : mT M (33 + 80 * e + 5 * k) = (101, 40) := by rw [h.2.1 _ (by omega)]; exact mi_S4 e he k hk
theorem Shp.rStr8 {M : mM} (h : Shp M) {e k : Nat} (he : e < 2) (hk : k < 12) : mR M (29 + 80 * e + 5 * k) 8 = some (30 + 80 * e + 5 * k) := by rw [h.2.2 _ 8 (by omega) (by unfold mvR; omega)]; exact mi_Q0 e he k hk
theorem Shp.rStr9 {M : mM} (h : Shp M) {e k : Nat} (he : e < 2) (hk : k < 12) : mR M (29 + 80 * e + 5 * k) 9 = some (32 + 80 * e + 5 * k) := by rw [h.2.2 _ 9 (by omega) (by unfold mvR; omega)]; exact mi_Q1 e he k hk
theorem Shp.rWt0 {M : mM} (h : Shp M) {e k : Nat} (he : e < 2) (hk : k < 12) : mR M (30 + 80 * e + 5 * k) 0 = some (31 + 80 * e + 5 * k) := by rw [h.2.2 _ 0 (by omega) (by unfold mvR; omega)]; exact mi_Q2 e he k hk
theorem Shp.rUr0 {M : mM} (h : Shp M) {e k : Nat} (he : e < 2) (hk : k < 12) : mR M (32 + 80 * e + 5 * k) 0 = some (33 + 80 * e + 5 * k) := by rw [h.2.2 _ 0 (by omega) (by unfold mvR; omega)]; exact mi_Q3 e he k hk
theorem Shp.rStrs {M : mM} (h : Shp M) {e k : Nat} (he : e < 2) (hk : k < 12) : mR M (24 + 80 * e) k = some (29 + 80 * e + 5 * k) := by rw [h.2.2 _ k (by omega) (by unfold mvR; omega)]; exact mi_RS e he k hk
theorem Shp.TEnds {M : mM} (h : Shp M) : mT M 8 = (106, 2) := by rw [h.2.1 8 (by decide)]; exact mi_L.1
theorem Shp.rLink {M : mM} (h : Shp M) : mR M 3 0 = some 8 := by rw [h.2.2 3 0 (by decide) (by unfold mvR; omega)]; exact mi_L.2.1
theorem Shp.rEnds {M : mM} (h : Shp M) {e : Nat} (he : e < 2) : mR M 8 e = some (9 + 80 * e) := by rw [h.2.2 8 e (by decide) (by unfold mvR; omega)]; exact mi_L.2.2 e he
theorem Shp.mi : Shp mi := ⟨by rw [mi_N]; exact Nat.le_refl _, fun _ _ => rfl, fun _ _ _ _ => rfl⟩
end
section
theorem dLink_isWithin_0 : decode uLink_isWithin.2.1 0 = .ok (.iload_n 0, 1) := by decide +kernel
theorem dLink_isWithin_1 : decode uLink_isWithin.2.1 1 = .ok (.iload_n 1, 1) := by decide +kernel
theorem dLink_isWithin_2 : decode uLink_isWithin.2.1 2 = .ok (.if_icmp .lt 12, 3) := by decide +kernel
theorem dLink_isWithin_5 : decode uLink_isWithin.2.1 5 = .ok (.iload_n 0, 1) := by decide +kernel
theorem dLink_isWithin_6 : decode uLink_isWithin.2.1 6 = .ok (.iload_n 2, 1) := by decide +kernel
theorem dLink_isWithin_7 : decode uLink_isWithin.2.1 7 = .ok (.if_icmp .gt 7, 3) := by decide +kernel
theorem dLink_isWithin_10 : decode uLink_isWithin.2.1 10 = .ok (.iconst 1, 1) := by decide +kernel
theorem dLink_isWithin_11 : decode uLink_isWithin.2.1 11 = .ok (.goto 4, 3) := by decide +kernel
theorem dLink_isWithin_14 : decode uLink_isWithin.2.1 14 = .ok (.iconst 0, 1) := by decide +kernel
theorem dLink_isWithin_15 : decode uLink_isWithin.2.1 15 = .ok (.ireturn, 1) := by decide +kernel
theorem dLink_endOf_0 : decode uLink_endOf.2.1 0 = .ok (.iload_n 1, 1) := by decide +kernel
theorem dLink_endOf_1 : decode uLink_endOf.2.1 1 = .ok (.ifCond .eq 8, 3) := by decide +kernel
theorem dLink_endOf_4 : decode uLink_endOf.2.1 4 = .ok (.iload_n 1, 1) := by decide +kernel
theorem dLink_endOf_5 : decode uLink_endOf.2.1 5 = .ok (.iconst 1, 1) := by decide +kernel
theorem dLink_endOf_6 : decode uLink_endOf.2.1 6 = .ok (.if_icmp .ne 12, 3) := by decide +kernel
theorem dLink_endOf_9 : decode uLink_endOf.2.1 9 = .ok (.aload_n 0, 1) := by decide +kernel
theorem dLink_endOf_10 : decode uLink_endOf.2.1 10 = .ok (.getfield 12, 3) := by decide +kernel
theorem dLink_endOf_13 : decode uLink_endOf.2.1 13 = .ok (.iload_n 1, 1) := by decide +kernel
theorem dLink_endOf_14 : decode uLink_endOf.2.1 14 = .ok (.aaload, 1) := by decide +kernel
theorem dLink_endOf_15 : decode uLink_endOf.2.1 15 = .ok (.goto 4, 3) := by decide +kernel
theorem dLink_endOf_18 : decode uLink_endOf.2.1 18 = .ok (.aconst_null, 1) := by decide +kernel
theorem dLink_endOf_19 : decode uLink_endOf.2.1 19 = .ok (.areturn, 1) := by decide +kernel
theorem dLink_upEndOf_0 : decode uLink_upEndOf.2.1 0 = .ok (.aload_n 0, 1) := by decide +kernel
theorem dLink_upEndOf_1 : decode uLink_upEndOf.2.1 1 = .ok (.iload_n 1, 1) := by decide +kernel
theorem dLink_upEndOf_2 : decode uLink_upEndOf.2.1 2 = .ok (.invokevirtual 128, 3) := by decide +kernel
theorem dLink_upEndOf_5 : decode uLink_upEndOf.2.1 5 = .ok (.astore_n 2, 1) := by decide +kernel
theorem dLink_upEndOf_6 : decode uLink_upEndOf.2.1 6 = .ok (.aload_n 2, 1) := by decide +kernel
theorem dLink_upEndOf_7 : decode uLink_upEndOf.2.1 7 = .ok (.ifnull 10, 3) := by decide +kernel
theorem dLink_upEndOf_10 : decode uLink_upEndOf.2.1 10 = .ok (.aload_n 2, 1) := by decide +kernel
theorem dLink_upEndOf_11 : decode uLink_upEndOf.2.1 11 = .ok (.getfield 135, 3) := by decide +kernel
theorem dLink_upEndOf_14 : decode uLink_upEndOf.2.1 14 = .ok (.ifCond .eq 7, 3) := by decide +kernel
theorem dLink_upEndOf_17 : decode uLink_upEndOf.2.1 17 = .ok (.aconst_null, 1) := by decide +kernel
theorem dLink_upEndOf_18 : decode uLink_upEndOf.2.1 18 = .ok (.goto 4, 3) := by decide +kernel
theorem dLink_upEndOf_21 : decode uLink_upEndOf.2.1 21 = .ok (.aload_n 2, 1) := by decide +kernel
theorem dLink_upEndOf_22 : decode uLink_upEndOf.2.1 22 = .ok (.areturn, 1) := by decide +kernel
theorem dStream_isActive_0 : decode uStream_isActive.2.1 0 = .ok (.aload_n 0, 1) := by decide +kernel
theorem dStream_isActive_1 : decode uStream_isActive.2.1 1 = .ok (.getfield 9, 3) := by decide +kernel
theorem dStream_isActive_4 : decode uStream_isActive.2.1 4 = .ok (.iconst 1, 1) := by decide +kernel
theorem dStream_isActive_5 : decode uStream_isActive.2.1 5 = .ok (.if_icmp .eq 19, 3) := by decide +kernel
theorem dStream_isActive_8 : decode uStream_isActive.2.1 8 = .ok (.aload_n 0, 1) := by decide +kernel
theorem dStream_isActive_9 : decode uStream_isActive.2.1 9 = .ok (.getfield 9, 3) := by decide +kernel
theorem dStream_isActive_12 : decode uStream_isActive.2.1 12 = .ok (.iconst 2, 1) := by decide +kernel
theorem dStream_isActive_13 : decode uStream_isActive.2.1 13 = .ok (.if_icmp .eq 11, 3) := by decide +kernel
theorem dStream_isActive_16 : decode uStream_isActive.2.1 16 = .ok (.aload_n 0, 1) := by decide +kernel
theorem dStream_isActive_17 : decode uStream_isActive.2.1 17 = .ok (.getfield 9, 3) := by decide +kernel
theorem dStream_isActive_20 : decode uStream_isActive.2.1 20 = .ok (.iconst 3, 1) := by decide +kernel
theorem dStream_isActive_21 : decode uStream_isActive.2.1 21 = .ok (.if_icmp .ne 7, 3) := by decide +kernel
theorem dStream_isActive_24 : decode uStream_isActive.2.1 24 = .ok (.iconst 1, 1) := by decide +kernel
theorem dStream_isActive_25 : decode uStream_isActive.2.1 25 = .ok (.goto 4, 3) := by decide +kernel
theorem dStream_isActive_28 : decode uStream_isActive.2.1 28 = .ok (.iconst 0, 1) := by decide +kernel
theorem dStream_isActive_29 : decode uStream_isActive.2.1 29 = .ok (.ireturn, 1) := by decide +kernel
theorem dStream_maySend_0 : decode uStream_maySend.2.1 0 = .ok (.aload_n 0, 1) := by decide +kernel
theorem dStream_maySend_1 : decode uStream_maySend.2.1 1 = .ok (.getfield 9, 3) := by decide +kernel
theorem dStream_maySend_4 : decode uStream_maySend.2.1 4 = .ok (.iconst 1, 1) := by decide +kernel
theorem dStream_maySend_5 : decode uStream_maySend.2.1 5 = .ok (.if_icmp .eq 11, 3) := by decide +kernel
theorem dStream_maySend_8 : decode uStream_maySend.2.1 8 = .ok (.aload_n 0, 1) := by decide +kernel
theorem dStream_maySend_9 : decode uStream_maySend.2.1 9 = .ok (.getfield 9, 3) := by decide +kernel
theorem dStream_maySend_12 : decode uStream_maySend.2.1 12 = .ok (.iconst 3, 1) := by decide +kernel
theorem dStream_maySend_13 : decode uStream_maySend.2.1 13 = .ok (.if_icmp .ne 7, 3) := by decide +kernel
theorem dStream_maySend_16 : decode uStream_maySend.2.1 16 = .ok (.iconst 1, 1) := by decide +kernel
theorem dStream_maySend_17 : decode uStream_maySend.2.1 17 = .ok (.goto 4, 3) := by decide +kernel
theorem dStream_maySend_20 : decode uStream_maySend.2.1 20 = .ok (.iconst 0, 1) := by decide +kernel
theorem dStream_maySend_21 : decode uStream_maySend.2.1 21 = .ok (.ireturn, 1) := by decide +kernel
theorem dStream_mayGet_0 : decode uStream_mayGet.2.1 0 = .ok (.aload_n 0, 1) := by decide +kernel
theorem dStream_mayGet_1 : decode uStream_mayGet.2.1 1 = .ok (.getfield 9, 3) := by decide +kernel
theorem dStream_mayGet_4 : decode uStream_mayGet.2.1 4 = .ok (.iconst 1, 1) := by decide +kernel
theorem dStream_mayGet_5 : decode uStream_mayGet.2.1 5 = .ok (.if_icmp .eq 11, 3) := by decide +kernel
theorem dStream_mayGet_8 : decode uStream_mayGet.2.1 8 = .ok (.aload_n 0, 1) := by decide +kernel
theorem dStream_mayGet_9 : decode uStream_mayGet.2.1 9 = .ok (.getfield 9, 3) := by decide +kernel
theorem dStream_mayGet_12 : decode uStream_mayGet.2.1 12 = .ok (.iconst 2, 1) := by decide +kernel
theorem dStream_mayGet_13 : decode uStream_mayGet.2.1 13 = .ok (.if_icmp .ne 7, 3) := by decide +kernel
theorem dStream_mayGet_16 : decode uStream_mayGet.2.1 16 = .ok (.iconst 1, 1) := by decide +kernel
theorem dStream_mayGet_17 : decode uStream_mayGet.2.1 17 = .ok (.goto 4, 3) := by decide +kernel
theorem dStream_mayGet_20 : decode uStream_mayGet.2.1 20 = .ok (.iconst 0, 1) := by decide +kernel
theorem dStream_mayGet_21 : decode uStream_mayGet.2.1 21 = .ok (.ireturn, 1) := by decide +kernel
theorem dSett_isKnown_0 : decode uSett_isKnown.2.1 0 = .ok (.iload_n 0, 1) := by decide +kernel
theorem dSett_isKnown_1 : decode uSett_isKnown.2.1 1 = .ok (.iconst 1, 1) := by decide +kernel
theorem dSett_isKnown_2 : decode uSett_isKnown.2.1 2 = .ok (.if_icmp .eq 13, 3) := by decide +kernel
theorem dSett_isKnown_5 : decode uSett_isKnown.2.1 5 = .ok (.iload_n 0, 1) := by decide +kernel
theorem dSett_isKnown_6 : decode uSett_isKnown.2.1 6 = .ok (.iconst 3, 1) := by decide +kernel
theorem dSett_isKnown_7 : decode uSett_isKnown.2.1 7 = .ok (.if_icmp .eq 8, 3) := by decide +kernel
theorem dSett_isKnown_10 : decode uSett_isKnown.2.1 10 = .ok (.iload_n 0, 1) := by decide +kernel
theorem dSett_isKnown_11 : decode uSett_isKnown.2.1 11 = .ok (.iconst 4, 1) := by decide +kernel
theorem dSett_isKnown_12 : decode uSett_isKnown.2.1 12 = .ok (.if_icmp .ne 7, 3) := by decide +kernel
theorem dSett_isKnown_15 : decode uSett_isKnown.2.1 15 = .ok (.iconst 1, 1) := by decide +kernel
theorem dSett_isKnown_16 : decode uSett_isKnown.2.1 16 = .ok (.goto 4, 3) := by decide +kernel
theorem dSett_isKnown_19 : decode uSett_isKnown.2.1 19 = .ok (.iconst 0, 1) := by decide +kernel
theorem dSett_isKnown_20 : decode uSett_isKnown.2.1 20 = .ok (.ireturn, 1) := by decide +kernel
theorem dSett_isInRange_0 : decode uSett_isInRange.2.1 0 = .ok (.iload_n 0, 1) := by decide +kernel
theorem dSett_isInRange_1 : decode uSett_isInRange.2.1 1 = .ok (.tableswitch 56 1 4 #[31, 56, 40, 48], 31) := by decide +kernel
theorem dSett_isInRange_32 : decode uSett_isInRange.2.1 32 = .ok (.iload_n 1, 1) := by decide +kernel
theorem dSett_isInRange_33 : decode uSett_isInRange.2.1 33 = .ok (.iconst 0, 1) := by decide +kernel
theorem dSett_isInRange_34 : decode uSett_isInRange.2.1 34 = .ok (.sipush 200, 3) := by decide +kernel
theorem dSett_isInRange_37 : decode uSett_isInRange.2.1 37 = .ok (.invokestatic 21, 3) := by decide +kernel
theorem dSett_isInRange_40 : decode uSett_isInRange.2.1 40 = .ok (.ireturn, 1) := by decide +kernel
theorem dSett_isInRange_41 : decode uSett_isInRange.2.1 41 = .ok (.iload_n 1, 1) := by decide +kernel
theorem dSett_isInRange_42 : decode uSett_isInRange.2.1 42 = .ok (.iconst 0, 1) := by decide +kernel
theorem dSett_isInRange_43 : decode uSett_isInRange.2.1 43 = .ok (.bipush 12, 2) := by decide +kernel
theorem dSett_isInRange_45 : decode uSett_isInRange.2.1 45 = .ok (.invokestatic 21, 3) := by decide +kernel
theorem dSett_isInRange_48 : decode uSett_isInRange.2.1 48 = .ok (.ireturn, 1) := by decide +kernel
theorem dSett_isInRange_49 : decode uSett_isInRange.2.1 49 = .ok (.iload_n 1, 1) := by decide +kernel
theorem dSett_isInRange_50 : decode uSett_isInRange.2.1 50 = .ok (.iconst 0, 1) := by decide +kernel
theorem dSett_isInRange_51 : decode uSett_isInRange.2.1 51 = .ok (.bipush 64, 2) := by decide +kernel
theorem dSett_isInRange_53 : decode uSett_isInRange.2.1 53 = .ok (.invokestatic 21, 3) := by decide +kernel
theorem dSett_isInRange_56 : decode uSett_isInRange.2.1 56 = .ok (.ireturn, 1) := by decide +kernel
theorem dSett_isInRange_57 : decode uSett_isInRange.2.1 57 = .ok (.iconst 1, 1) := by decide +kernel
theorem dSett_isInRange_58 : decode uSett_isInRange.2.1 58 = .ok (.ireturn, 1) := by decide +kernel
theorem dEnd_streamOf_0 : decode uEnd_streamOf.2.1 0 = .ok (.iload_n 1, 1) := by decide +kernel
theorem dEnd_streamOf_1 : decode uEnd_streamOf.2.1 1 = .ok (.iconst 1, 1) := by decide +kernel
theorem dEnd_streamOf_2 : decode uEnd_streamOf.2.1 2 = .ok (.bipush 23, 2) := by decide +kernel
theorem dEnd_streamOf_4 : decode uEnd_streamOf.2.1 4 = .ok (.invokestatic 88, 3) := by decide +kernel
theorem dEnd_streamOf_7 : decode uEnd_streamOf.2.1 7 = .ok (.ifCond .eq 9, 3) := by decide +kernel
theorem dEnd_streamOf_10 : decode uEnd_streamOf.2.1 10 = .ok (.iload_n 1, 1) := by decide +kernel
theorem dEnd_streamOf_11 : decode uEnd_streamOf.2.1 11 = .ok (.iconst 2, 1) := by decide +kernel
theorem dEnd_streamOf_12 : decode uEnd_streamOf.2.1 12 = .ok (.irem, 1) := by decide +kernel
theorem dEnd_streamOf_13 : decode uEnd_streamOf.2.1 13 = .ok (.ifCond .ne 5, 3) := by decide +kernel
theorem dEnd_streamOf_16 : decode uEnd_streamOf.2.1 16 = .ok (.aconst_null, 1) := by decide +kernel
theorem dEnd_streamOf_17 : decode uEnd_streamOf.2.1 17 = .ok (.areturn, 1) := by decide +kernel
theorem dEnd_streamOf_18 : decode uEnd_streamOf.2.1 18 = .ok (.aload_n 0, 1) := by decide +kernel
theorem dEnd_streamOf_19 : decode uEnd_streamOf.2.1 19 = .ok (.getfield 44, 3) := by decide +kernel
theorem dEnd_streamOf_22 : decode uEnd_streamOf.2.1 22 = .ok (.iload_n 1, 1) := by decide +kernel
theorem dEnd_streamOf_23 : decode uEnd_streamOf.2.1 23 = .ok (.iconst 2, 1) := by decide +kernel
theorem dEnd_streamOf_24 : decode uEnd_streamOf.2.1 24 = .ok (.idiv, 1) := by decide +kernel
theorem dEnd_streamOf_25 : decode uEnd_streamOf.2.1 25 = .ok (.aaload, 1) := by decide +kernel
theorem dEnd_streamOf_26 : decode uEnd_streamOf.2.1 26 = .ok (.areturn, 1) := by decide +kernel
theorem dLink_streamOf_0 : decode uLink_streamOf.2.1 0 = .ok (.aload_n 0, 1) := by decide +kernel
theorem dLink_streamOf_1 : decode uLink_streamOf.2.1 1 = .ok (.ifnonnull 7, 3) := by decide +kernel
theorem dLink_streamOf_4 : decode uLink_streamOf.2.1 4 = .ok (.aconst_null, 1) := by decide +kernel
theorem dLink_streamOf_5 : decode uLink_streamOf.2.1 5 = .ok (.goto 8, 3) := by decide +kernel
theorem dLink_streamOf_8 : decode uLink_streamOf.2.1 8 = .ok (.aload_n 0, 1) := by decide +kernel
theorem dLink_streamOf_9 : decode uLink_streamOf.2.1 9 = .ok (.iload_n 1, 1) := by decide +kernel
theorem dLink_streamOf_10 : decode uLink_streamOf.2.1 10 = .ok (.invokevirtual 210, 3) := by decide +kernel
theorem dLink_streamOf_13 : decode uLink_streamOf.2.1 13 = .ok (.areturn, 1) := by decide +kernel
theorem dLink_down_0 : decode uLink_down.2.1 0 = .ok (.aload_n 0, 1) := by decide +kernel
theorem dLink_down_1 : decode uLink_down.2.1 1 = .ok (.iload_n 1, 1) := by decide +kernel
theorem dLink_down_2 : decode uLink_down.2.1 2 = .ok (.invokevirtual 128, 3) := by decide +kernel
theorem dLink_down_5 : decode uLink_down.2.1 5 = .ok (.astore_n 2, 1) := by decide +kernel
theorem dLink_down_6 : decode uLink_down.2.1 6 = .ok (.aload_n 2, 1) := by decide +kernel
theorem dLink_down_7 : decode uLink_down.2.1 7 = .ok (.ifnonnull 7, 3) := by decide +kernel
theorem dLink_down_10 : decode uLink_down.2.1 10 = .ok (.iconst (-1), 1) := by decide +kernel
theorem dLink_down_11 : decode uLink_down.2.1 11 = .ok (.goto 7, 3) := by decide +kernel
theorem dLink_down_14 : decode uLink_down.2.1 14 = .ok (.aload_n 2, 1) := by decide +kernel
theorem dLink_down_15 : decode uLink_down.2.1 15 = .ok (.getfield 135, 3) := by decide +kernel
theorem dLink_down_18 : decode uLink_down.2.1 18 = .ok (.ireturn, 1) := by decide +kernel
theorem dLink_state_0 : decode uLink_state.2.1 0 = .ok (.aload_n 0, 1) := by decide +kernel
theorem dLink_state_1 : decode uLink_state.2.1 1 = .ok (.iload_n 1, 1) := by decide +kernel
theorem dLink_state_2 : decode uLink_state.2.1 2 = .ok (.invokevirtual 128, 3) := by decide +kernel
theorem dLink_state_5 : decode uLink_state.2.1 5 = .ok (.iload_n 2, 1) := by decide +kernel
theorem dLink_state_6 : decode uLink_state.2.1 6 = .ok (.invokestatic 58, 3) := by decide +kernel
theorem dLink_state_9 : decode uLink_state.2.1 9 = .ok (.astore_n 3, 1) := by decide +kernel
theorem dLink_state_10 : decode uLink_state.2.1 10 = .ok (.aload_n 3, 1) := by decide +kernel
theorem dLink_state_11 : decode uLink_state.2.1 11 = .ok (.ifnonnull 7, 3) := by decide +kernel
theorem dLink_state_14 : decode uLink_state.2.1 14 = .ok (.iconst (-1), 1) := by decide +kernel
theorem dLink_state_15 : decode uLink_state.2.1 15 = .ok (.goto 7, 3) := by decide +kernel
theorem dLink_state_18 : decode uLink_state.2.1 18 = .ok (.aload_n 3, 1) := by decide +kernel
theorem dLink_state_19 : decode uLink_state.2.1 19 = .ok (.getfield 93, 3) := by decide +kernel
theorem dLink_state_22 : decode uLink_state.2.1 22 = .ok (.ireturn, 1) := by decide +kernel
theorem cs_Link_128 : cV "InterleavedLink" 128 uLink_endOf 1 := ⟨⟨Or.inl (gW_in 373 (by decide +kernel) rfl), (gW_in 64 (by decide +kernel) rfl), (gW_in 376 (by decide +kernel) rfl), ⟨by decide, by decide⟩, by decide +kernel⟩, (gW_in 375 (by decide +kernel) rfl), (gW_in 1 (by decide +kernel) rfl)⟩
theorem fs_Link_135 : fS "InterleavedLink" 135 2 3 := ⟨"InterleavedLink$End", T_End, 17, cf_End, by decide, Or.inl (gW_in 306 (by decide +kernel) rfl)⟩
theorem fs_Stream_9 : fS "InterleavedLink$Stream" 9 8 1 := ⟨"InterleavedLink$Stream", T_Stream, 10, cf_Stream, by decide, Or.inl (gW_in 253 (by decide +kernel) rfl)⟩
theorem cs_Sett_21 : cSt "InterleavedLink$Settings" 21 uLink_isWithin 3 := ⟨⟨Or.inr ⟨"InterleavedLink", (gN_in 679 (by decide +kernel) rfl)⟩, (gW_in 64 (by decide +kernel) rfl), (gW_in 379 (by decide +kernel) rfl), ⟨by decide, by decide⟩, by decide +kernel⟩, (gW_in 378 (by decide +kernel) rfl)⟩
theorem cs_End_88 : cSt "InterleavedLink$End" 88 uLink_isWithin 3 := ⟨⟨Or.inr ⟨"InterleavedLink", (gN_in 412 (by decide +kernel) rfl)⟩, (gW_in 64 (by decide +kernel) rfl), (gW_in 379 (by decide +kernel) rfl), ⟨by decide, by decide⟩, by decide +kernel⟩, (gW_in 378 (by decide +kernel) rfl)⟩
theorem cs_Link_210 : cV "InterleavedLink" 210 uEnd_streamOf 1 := ⟨⟨Or.inl (gW_in 563 (by decide +kernel) rfl), (gW_in 66 (by decide +kernel) rfl), (gW_in 411 (by decide +kernel) rfl), ⟨by decide, by decide⟩, by decide +kernel⟩, (gW_in 409 (by decide +kernel) rfl), (gW_in 410 (by decide +kernel) rfl)⟩
theorem cs_Link_58 : cSt "InterleavedLink" 58 uLink_streamOf 2 := ⟨⟨Or.inl (gW_in 560 (by decide +kernel) rfl), (gW_in 64 (by decide +kernel) rfl), (gW_in 562 (by decide +kernel) rfl), ⟨by decide, by decide⟩, by decide +kernel⟩, (gW_in 561 (by decide +kernel) rfl)⟩
theorem fs_Link_93 : fS "InterleavedLink" 93 8 1 := ⟨"InterleavedLink$Stream", T_Stream, 10, cf_Stream, by decide, Or.inl (gW_in 254 (by decide +kernel) rfl)⟩
/-! ===== the class: small reads ===== -/
def wi (x a b : Int32) : Int32 := if x < a then 0 else if b < x then 0 else 1
theorem wi_z (x a b : Int32) : wi x a b = 0 ∨ wi x a b = 1 := by unfold wi; split; exact Or.inl rfl; split; exact Or.inl rfl; exact Or.inr rfl
abbrev Kdown (M : mM) (e : Nat) : Int32 := mI M (9 + 80 * e) 3
abbrev Kstate (M : mM) (e k : Nat) : Int32 := mI M (29 + 80 * e + 5 * k) 1
def acC (M : mM) (e k : Nat) : Int32 := if Kstate M e k = 1 then 1 else if Kstate M e k = 2 then 1 else if ¬ Kstate M e k = 3 then 0 else 1
def msC (M : mM) (e k : Nat) : Int32 := if Kstate M e k = 1 then 1 else if ¬ Kstate M e k = 3 then 0 else 1
def mgC (M : mM) (e k : Nat) : Int32 := if Kstate M e k = 1 then 1 else if ¬ Kstate M e k = 2 then 0 else 1
def knC (x : Int32) : Int32 := if x = 1 then 1 else if x = 3 then 1 else if ¬ x = 4 then 0 else 1
def rgC (x v : Int32) : Int32 := if x = 1 then wi v 0 200 else if x = 3 then wi v 0 12 else if x = 4 then wi v 0 64 else 1
theorem rgC_z (x v : Int32) : rgC x v = 0 ∨ rgC x v = 1 := by unfold rgC; split; exact wi_z _ _ _; split; exact wi_z _ _ _; split; exact wi_z _ _ _; exact Or.inr rfl
set_option maxRecDepth 100000 in
set_option maxHeartbeats 4000000 in
theorem ct_isWithin {X : mX} {l : Launch} {M : mM} {x a b : Int32} : Ct X l uLink_isWithin (rk 0 0) [.int x, .int a, .int b] M (fun r M' => r = some (.int (wi x a b)) ∧ M' = M) := by
  refine Ct.of (by decide) (Nat.le_of_ble_eq_true rfl) ?_
  show G X l uLink_isWithin (rk 0 0) 0 0 M 0 [some (.int x), some (.int a), some (.int b)] [] _
  refine g_iload_n 0 dLink_isWithin_0 rfl ?_
  refine g_iload_n 1 dLink_isWithin_1 rfl ?_
  refine g_icmp_lt 2 14 dLink_isWithin_2 rfl (fun h2 => ?_) (fun h2 => ?_)
  · refine g_iconst 14 0 dLink_isWithin_14 rfl ?_
    exact g_zret 15 dLink_isWithin_15 rfl (by decide) ⟨by first | (simp only [wi, *, if_true, if_false, not_true_eq_false, not_false_eq_true, and_true, true_and, and_false, false_and, and_self, reduceIte]; done) | (simp_all [wi]; done), rfl⟩
  · refine g_iload_n 5 dLink_isWithin_5 rfl ?_
    refine g_iload_n 6 dLink_isWithin_6 rfl ?_
    refine g_icmp_gt 7 14 dLink_isWithin_7 rfl (fun h7 => ?_) (fun h7 => ?_)
    · refine g_iconst 14 0 dLink_isWithin_14 rfl ?_
      exact g_zret 15 dLink_isWithin_15 rfl (by decide) ⟨by first | (simp only [wi, *, if_true, if_false, not_true_eq_false, not_false_eq_true, and_true, true_and, and_false, false_and, and_self, reduceIte]; done) | (simp_all [wi]; done), rfl⟩
    · refine g_iconst 10 1 dLink_isWithin_10 rfl ?_
      refine g_goto 11 15 dLink_isWithin_11 rfl ?_
      exact g_zret 15 dLink_isWithin_15 rfl (by decide) ⟨by first | (simp only [wi, *, if_true, if_false, not_true_eq_false, not_false_eq_true, and_true, true_and, and_false, false_and, and_self, reduceIte]; done) | (simp_all [wi]; done), rfl⟩

set_option maxRecDepth 100000 in
set_option maxHeartbeats 4000000 in
theorem ct_endOf {X : mX} {l : Launch} {M : mM} {e : Nat} (hS : Shp M) (he : e < 2) : Ct X l uLink_endOf (rk 0 0) [.ref 3, .int (nI e)] M (fun r M' => r = some (.ref (9 + 80 * e)) ∧ M' = M) := by
  refine Ct.of (by decide) (Nat.le_of_ble_eq_true rfl) ?_
  show G X l uLink_endOf (rk 0 0) 0 0 M 0 [some (.ref 3), some (.int (nI e))] [] _
  refine g_iload_n 0 dLink_endOf_0 rfl ?_
  refine g_if_eqN 1 9 dLink_endOf_1 rfl (by omega) (fun h1 => ?_) (fun h1 => ?_)
  · refine g_aload_n 9 dLink_endOf_9 rfl ?_
    refine g_getr 10 0 0 dLink_endOf_10 fs_Link_12 rfl hS.link hS.rLink ?_
    refine g_iload_n 13 dLink_endOf_13 rfl ?_
    refine g_aaldN 14 6 (o := some _) dLink_endOf_14 rfl (by decide) hS.TEnds (by omega) (by decide) (hS.rEnds he) ?_
    refine g_goto 15 19 dLink_endOf_15 rfl ?_
    exact g_aret 19 dLink_endOf_19 rfl (Or.inl ⟨_, rfl⟩) ⟨rfl, rfl⟩
  · refine g_iload_n 4 dLink_endOf_4 rfl ?_
    refine g_iconst 5 (nI 1) dLink_endOf_5 rfl ?_
    refine g_icmp_neN 6 18 dLink_endOf_6 rfl (by omega) (by omega) (fun h6 => ?_) (fun h6 => ?_)
    · exact absurd h6 (by omega)
    · refine g_aload_n 9 dLink_endOf_9 rfl ?_
      refine g_getr 10 0 0 dLink_endOf_10 fs_Link_12 rfl hS.link hS.rLink ?_
      refine g_iload_n 13 dLink_endOf_13 rfl ?_
      refine g_aaldN 14 6 (o := some _) dLink_endOf_14 rfl (by decide) hS.TEnds (by omega) (by decide) (hS.rEnds he) ?_
      refine g_goto 15 19 dLink_endOf_15 rfl ?_
      exact g_aret 19 dLink_endOf_19 rfl (Or.inl ⟨_, rfl⟩) ⟨rfl, rfl⟩

set_option maxRecDepth 100000 in
set_option maxHeartbeats 4000000 in
theorem ct_endOf_no {X : mX} {l : Launch} {M : mM} {x : Int32} (h0 : ¬ x = 0) (h1 : ¬ x = 1) : Ct X l uLink_endOf (rk 0 0) [.ref 3, .int x] M (fun r M' => r = some (.null) ∧ M' = M) := by
  refine Ct.of (by decide) (Nat.le_of_ble_eq_true rfl) ?_
  show G X l uLink_endOf (rk 0 0) 0 0 M 0 [some (.ref 3), some (.int x)] [] _
  refine g_iload_n 0 dLink_endOf_0 rfl ?_
  refine g_if_eq 1 9 dLink_endOf_1 rfl (fun h1_ => ?_) (fun h1_ => ?_)
  · exact absurd h1_ h0
  · refine g_iload_n 4 dLink_endOf_4 rfl ?_
    refine g_iconst 5 1 dLink_endOf_5 rfl ?_
    refine g_icmp_ne 6 18 dLink_endOf_6 rfl (fun h6 => ?_) (fun h6 => ?_)
    · refine g_null 18 dLink_endOf_18 ?_
      exact g_aretN 19 dLink_endOf_19 rfl (Or.inl ⟨_, rfl⟩) ⟨rfl, rfl⟩
    · exact absurd h6 h1

set_option maxRecDepth 100000 in
set_option maxHeartbeats 4000000 in
theorem ct_upEndOf {X : mX} {l : Launch} {M : mM} {e : Nat} (hS : Shp M) (he : e < 2) (hu : Kdown M e = 0) : Ct X l uLink_upEndOf (rk 1 21) [.ref 3, .int (nI e)] M (fun r M' => r = some (.ref (9 + 80 * e)) ∧ M' = M) := by
  refine Ct.of (by decide) (Nat.le_of_ble_eq_true rfl) ?_
  show G X l uLink_upEndOf (rk 1 21) 0 0 M 0 [some (.ref 3), some (.int (nI e)), none] [] _
  refine g_aload_n 0 dLink_upEndOf_0 rfl ?_
  refine g_iload_n 1 dLink_upEndOf_1 rfl ?_
  refine g_callV 2 [_] dLink_upEndOf_2 cs_Link_128 rfl (ci := 0) rfl (by decide) hS.link rfl ⟨(Nat.le_of_ble_eq_true rfl), (Nat.le_of_ble_eq_true rfl)⟩ (Nat.le_of_ble_eq_true rfl) (ct_endOf hS he) (Nat.le_of_ble_eq_true rfl) (Nat.le_of_ble_eq_true rfl) ?_
  rintro _ M2 ⟨rfl, hM2⟩
  rw [hM2]
  clear hM2 M2
  refine g_astore_n 5 dLink_upEndOf_5 (by decide) rfl ?_
  refine g_aload_n 6 dLink_upEndOf_6 rfl ?_
  refine g_ifnull 7 dLink_upEndOf_7 ?_
  refine g_aload_n 10 dLink_upEndOf_10 rfl ?_
  refine g_geti 11 2 3 dLink_upEndOf_11 fs_Link_135 rfl (hS.tEnd he) ?_
  refine g_if_eq 14 21 dLink_upEndOf_14 rfl (fun h14 => ?_) (fun h14 => ?_)
  · refine g_aload_n 21 dLink_upEndOf_21 rfl ?_
    exact g_aret 22 dLink_upEndOf_22 rfl (Or.inl ⟨_, rfl⟩) ⟨rfl, rfl⟩
  · exact absurd hu h14

set_option maxRecDepth 100000 in
set_option maxHeartbeats 4000000 in
theorem ct_upEndOf_dn {X : mX} {l : Launch} {M : mM} {e : Nat} (hS : Shp M) (he : e < 2) (hu : ¬ Kdown M e = 0) : Ct X l uLink_upEndOf (rk 1 21) [.ref 3, .int (nI e)] M (fun r M' => r = some (.null) ∧ M' = M) := by
  refine Ct.of (by decide) (Nat.le_of_ble_eq_true rfl) ?_
  show G X l uLink_upEndOf (rk 1 21) 0 0 M 0 [some (.ref 3), some (.int (nI e)), none] [] _
  refine g_aload_n 0 dLink_upEndOf_0 rfl ?_
  refine g_iload_n 1 dLink_upEndOf_1 rfl ?_
  refine g_callV 2 [_] dLink_upEndOf_2 cs_Link_128 rfl (ci := 0) rfl (by decide) hS.link rfl ⟨(Nat.le_of_ble_eq_true rfl), (Nat.le_of_ble_eq_true rfl)⟩ (Nat.le_of_ble_eq_true rfl) (ct_endOf hS he) (Nat.le_of_ble_eq_true rfl) (Nat.le_of_ble_eq_true rfl) ?_
  rintro _ M2 ⟨rfl, hM2⟩
  rw [hM2]
  clear hM2 M2
  refine g_astore_n 5 dLink_upEndOf_5 (by decide) rfl ?_
  refine g_aload_n 6 dLink_upEndOf_6 rfl ?_
  refine g_ifnull 7 dLink_upEndOf_7 ?_
  refine g_aload_n 10 dLink_upEndOf_10 rfl ?_
  refine g_geti 11 2 3 dLink_upEndOf_11 fs_Link_135 rfl (hS.tEnd he) ?_
  refine g_if_eq 14 21 dLink_upEndOf_14 rfl (fun h14 => ?_) (fun h14 => ?_)
  · exact absurd h14 hu
  · refine g_null 17 dLink_upEndOf_17 ?_
    refine g_goto 18 22 dLink_upEndOf_18 rfl ?_
    exact g_aretN 22 dLink_upEndOf_22 rfl (Or.inl ⟨_, rfl⟩) ⟨rfl, rfl⟩

set_option maxRecDepth 100000 in
set_option maxHeartbeats 4000000 in
theorem ct_upEndOf_no {X : mX} {l : Launch} {M : mM} {x : Int32} (hS : Shp M) (h0 : ¬ x = 0) (h1 : ¬ x = 1) : Ct X l uLink_upEndOf (rk 1 21) [.ref 3, .int x] M (fun r M' => r = some (.null) ∧ M' = M) := by
  refine Ct.of (by decide) (Nat.le_of_ble_eq_true rfl) ?_
  show G X l uLink_upEndOf (rk 1 21) 0 0 M 0 [some (.ref 3), some (.int x), none] [] _
  refine g_aload_n 0 dLink_upEndOf_0 rfl ?_
  refine g_iload_n 1 dLink_upEndOf_1 rfl ?_
  refine g_callV 2 [_] dLink_upEndOf_2 cs_Link_128 rfl (ci := 0) rfl (by decide) hS.link rfl ⟨(Nat.le_of_ble_eq_true rfl), (Nat.le_of_ble_eq_true rfl)⟩ (Nat.le_of_ble_eq_true rfl) (ct_endOf_no h0 h1) (Nat.le_of_ble_eq_true rfl) (Nat.le_of_ble_eq_true rfl) ?_
  rintro _ M2 ⟨rfl, hM2⟩
  rw [hM2]
  clear hM2 M2
  refine g_astore_nN 5 dLink_upEndOf_5 (by decide) rfl ?_
  refine g_aload_nN 6 dLink_upEndOf_6 rfl ?_
  refine g_ifnullN 7 17 dLink_upEndOf_7 rfl ?_
  refine g_null 17 dLink_upEndOf_17 ?_
  refine g_goto 18 22 dLink_upEndOf_18 rfl ?_
  exact g_aretN 22 dLink_upEndOf_22 rfl (Or.inl ⟨_, rfl⟩) ⟨rfl, rfl⟩

set_option maxRecDepth 100000 in
set_option maxHeartbeats 4000000 in
theorem ct_Str_isActive {X : mX} {l : Launch} {M : mM} {e k : Nat} (hS : Shp M) (he : e < 2) (hk : k < 12) : Ct X l uStream_isActive (rk 0 0) [.ref (29 + 80 * e + 5 * k)] M (fun r M' => r = some (.int (acC M e k)) ∧ M' = M) := by
  refine Ct.of (by decide) (Nat.le_of_ble_eq_true rfl) ?_
  show G X l uStream_isActive (rk 0 0) 0 0 M 0 [some (.ref (29 + 80 * e + 5 * k))] [] _
  refine g_aload_n 0 dStream_isActive_0 rfl ?_
  refine g_geti 1 8 1 dStream_isActive_1 fs_Stream_9 rfl (hS.tStr he hk) ?_
  refine g_iconst 4 1 dStream_isActive_4 rfl ?_
  refine g_icmp_eq 5 24 dStream_isActive_5 rfl (fun h5 => ?_) (fun h5 => ?_)
  · refine g_iconst 24 1 dStream_isActive_24 rfl ?_
    refine g_goto 25 29 dStream_isActive_25 rfl ?_
    exact g_zret 29 dStream_isActive_29 rfl (by decide) ⟨by first | (simp only [acC, *, if_true, if_false, not_true_eq_false, not_false_eq_true, and_true, true_and, and_false, false_and, and_self, reduceIte]; done) | (simp_all [acC]; done), rfl⟩
  · refine g_aload_n 8 dStream_isActive_8 rfl ?_
    refine g_geti 9 8 1 dStream_isActive_9 fs_Stream_9 rfl (hS.tStr he hk) ?_
    refine g_iconst 12 2 dStream_isActive_12 rfl ?_
    refine g_icmp_eq 13 24 dStream_isActive_13 rfl (fun h13 => ?_) (fun h13 => ?_)
    · refine g_iconst 24 1 dStream_isActive_24 rfl ?_
      refine g_goto 25 29 dStream_isActive_25 rfl ?_
      exact g_zret 29 dStream_isActive_29 rfl (by decide) ⟨by first | (simp only [acC, *, if_true, if_false, not_true_eq_false, not_false_eq_true, and_true, true_and, and_false, false_and, and_self, reduceIte]; done) | (simp_all [acC]; done), rfl⟩
    · refine g_aload_n 16 dStream_isActive_16 rfl ?_
      refine g_geti 17 8 1 dStream_isActive_17 fs_Stream_9 rfl (hS.tStr he hk) ?_
      refine g_iconst 20 3 dStream_isActive_20 rfl ?_
      refine g_icmp_ne 21 28 dStream_isActive_21 rfl (fun h21 => ?_) (fun h21 => ?_)
      · refine g_iconst 28 0 dStream_isActive_28 rfl ?_
        exact g_zret 29 dStream_isActive_29 rfl (by decide) ⟨by first | (simp only [acC, *, if_true, if_false, not_true_eq_false, not_false_eq_true, and_true, true_and, and_false, false_and, and_self, reduceIte]; done) | (simp_all [acC]; done), rfl⟩
      · refine g_iconst 24 1 dStream_isActive_24 rfl ?_
        refine g_goto 25 29 dStream_isActive_25 rfl ?_
        exact g_zret 29 dStream_isActive_29 rfl (by decide) ⟨by first | (simp only [acC, *, if_true, if_false, not_true_eq_false, not_false_eq_true, and_true, true_and, and_false, false_and, and_self, reduceIte]; done) | (simp_all [acC]; done), rfl⟩

set_option maxRecDepth 100000 in
set_option maxHeartbeats 4000000 in
theorem ct_Str_maySend {X : mX} {l : Launch} {M : mM} {e k : Nat} (hS : Shp M) (he : e < 2) (hk : k < 12) : Ct X l uStream_maySend (rk 0 0) [.ref (29 + 80 * e + 5 * k)] M (fun r M' => r = some (.int (msC M e k)) ∧ M' = M) := by
  refine Ct.of (by decide) (Nat.le_of_ble_eq_true rfl) ?_
  show G X l uStream_maySend (rk 0 0) 0 0 M 0 [some (.ref (29 + 80 * e + 5 * k))] [] _
  refine g_aload_n 0 dStream_maySend_0 rfl ?_
  refine g_geti 1 8 1 dStream_maySend_1 fs_Stream_9 rfl (hS.tStr he hk) ?_
  refine g_iconst 4 1 dStream_maySend_4 rfl ?_
  refine g_icmp_eq 5 16 dStream_maySend_5 rfl (fun h5 => ?_) (fun h5 => ?_)
  · refine g_iconst 16 1 dStream_maySend_16 rfl ?_
    refine g_goto 17 21 dStream_maySend_17 rfl ?_
    exact g_zret 21 dStream_maySend_21 rfl (by decide) ⟨by first | (simp only [msC, *, if_true, if_false, not_true_eq_false, not_false_eq_true, and_true, true_and, and_false, false_and, and_self, reduceIte]; done) | (simp_all [msC]; done), rfl⟩
  · refine g_aload_n 8 dStream_maySend_8 rfl ?_
    refine g_geti 9 8 1 dStream_maySend_9 fs_Stream_9 rfl (hS.tStr he hk) ?_
    refine g_iconst 12 3 dStream_maySend_12 rfl ?_
    refine g_icmp_ne 13 20 dStream_maySend_13 rfl (fun h13 => ?_) (fun h13 => ?_)
    · refine g_iconst 20 0 dStream_maySend_20 rfl ?_
      exact g_zret 21 dStream_maySend_21 rfl (by decide) ⟨by first | (simp only [msC, *, if_true, if_false, not_true_eq_false, not_false_eq_true, and_true, true_and, and_false, false_and, and_self, reduceIte]; done) | (simp_all [msC]; done), rfl⟩
    · refine g_iconst 16 1 dStream_maySend_16 rfl ?_
      refine g_goto 17 21 dStream_maySend_17 rfl ?_
      exact g_zret 21 dStream_maySend_21 rfl (by decide) ⟨by first | (simp only [msC, *, if_true, if_false, not_true_eq_false, not_false_eq_true, and_true, true_and, and_false, false_and, and_self, reduceIte]; done) | (simp_all [msC]; done), rfl⟩

set_option maxRecDepth 100000 in
set_option maxHeartbeats 4000000 in
theorem ct_Str_mayGet {X : mX} {l : Launch} {M : mM} {e k : Nat} (hS : Shp M) (he : e < 2) (hk : k < 12) : Ct X l uStream_mayGet (rk 0 0) [.ref (29 + 80 * e + 5 * k)] M (fun r M' => r = some (.int (mgC M e k)) ∧ M' = M) := by
  refine Ct.of (by decide) (Nat.le_of_ble_eq_true rfl) ?_
  show G X l uStream_mayGet (rk 0 0) 0 0 M 0 [some (.ref (29 + 80 * e + 5 * k))] [] _
  refine g_aload_n 0 dStream_mayGet_0 rfl ?_
  refine g_geti 1 8 1 dStream_mayGet_1 fs_Stream_9 rfl (hS.tStr he hk) ?_
  refine g_iconst 4 1 dStream_mayGet_4 rfl ?_
  refine g_icmp_eq 5 16 dStream_mayGet_5 rfl (fun h5 => ?_) (fun h5 => ?_)
  · refine g_iconst 16 1 dStream_mayGet_16 rfl ?_
    refine g_goto 17 21 dStream_mayGet_17 rfl ?_
    exact g_zret 21 dStream_mayGet_21 rfl (by decide) ⟨by first | (simp only [mgC, *, if_true, if_false, not_true_eq_false, not_false_eq_true, and_true, true_and, and_false, false_and, and_self, reduceIte]; done) | (simp_all [mgC]; done), rfl⟩
  · refine g_aload_n 8 dStream_mayGet_8 rfl ?_
    refine g_geti 9 8 1 dStream_mayGet_9 fs_Stream_9 rfl (hS.tStr he hk) ?_
    refine g_iconst 12 2 dStream_mayGet_12 rfl ?_
    refine g_icmp_ne 13 20 dStream_mayGet_13 rfl (fun h13 => ?_) (fun h13 => ?_)
    · refine g_iconst 20 0 dStream_mayGet_20 rfl ?_
      exact g_zret 21 dStream_mayGet_21 rfl (by decide) ⟨by first | (simp only [mgC, *, if_true, if_false, not_true_eq_false, not_false_eq_true, and_true, true_and, and_false, false_and, and_self, reduceIte]; done) | (simp_all [mgC]; done), rfl⟩
    · refine g_iconst 16 1 dStream_mayGet_16 rfl ?_
      refine g_goto 17 21 dStream_mayGet_17 rfl ?_
      exact g_zret 21 dStream_mayGet_21 rfl (by decide) ⟨by first | (simp only [mgC, *, if_true, if_false, not_true_eq_false, not_false_eq_true, and_true, true_and, and_false, false_and, and_self, reduceIte]; done) | (simp_all [mgC]; done), rfl⟩

set_option maxRecDepth 100000 in
set_option maxHeartbeats 4000000 in
theorem ct_Sett_isKnown {X : mX} {l : Launch} {M : mM} {x : Int32} : Ct X l uSett_isKnown (rk 0 0) [.int x] M (fun r M' => r = some (.int (knC x)) ∧ M' = M) := by
  refine Ct.of (by decide) (Nat.le_of_ble_eq_true rfl) ?_
  show G X l uSett_isKnown (rk 0 0) 0 0 M 0 [some (.int x)] [] _
  refine g_iload_n 0 dSett_isKnown_0 rfl ?_
  refine g_iconst 1 1 dSett_isKnown_1 rfl ?_
  refine g_icmp_eq 2 15 dSett_isKnown_2 rfl (fun h2 => ?_) (fun h2 => ?_)
  · refine g_iconst 15 1 dSett_isKnown_15 rfl ?_
    refine g_goto 16 20 dSett_isKnown_16 rfl ?_
    exact g_zret 20 dSett_isKnown_20 rfl (by decide) ⟨by first | (simp only [knC, *, if_true, if_false, not_true_eq_false, not_false_eq_true, and_true, true_and, and_false, false_and, and_self, reduceIte]; done) | (simp_all [knC]; done), rfl⟩
  · refine g_iload_n 5 dSett_isKnown_5 rfl ?_
    refine g_iconst 6 3 dSett_isKnown_6 rfl ?_
    refine g_icmp_eq 7 15 dSett_isKnown_7 rfl (fun h7 => ?_) (fun h7 => ?_)
    · refine g_iconst 15 1 dSett_isKnown_15 rfl ?_
      refine g_goto 16 20 dSett_isKnown_16 rfl ?_
      exact g_zret 20 dSett_isKnown_20 rfl (by decide) ⟨by first | (simp only [knC, *, if_true, if_false, not_true_eq_false, not_false_eq_true, and_true, true_and, and_false, false_and, and_self, reduceIte]; done) | (simp_all [knC]; done), rfl⟩
    · refine g_iload_n 10 dSett_isKnown_10 rfl ?_
      refine g_iconst 11 4 dSett_isKnown_11 rfl ?_
      refine g_icmp_ne 12 19 dSett_isKnown_12 rfl (fun h12 => ?_) (fun h12 => ?_)
      · refine g_iconst 19 0 dSett_isKnown_19 rfl ?_
        exact g_zret 20 dSett_isKnown_20 rfl (by decide) ⟨by first | (simp only [knC, *, if_true, if_false, not_true_eq_false, not_false_eq_true, and_true, true_and, and_false, false_and, and_self, reduceIte]; done) | (simp_all [knC]; done), rfl⟩
      · refine g_iconst 15 1 dSett_isKnown_15 rfl ?_
        refine g_goto 16 20 dSett_isKnown_16 rfl ?_
        exact g_zret 20 dSett_isKnown_20 rfl (by decide) ⟨by first | (simp only [knC, *, if_true, if_false, not_true_eq_false, not_false_eq_true, and_true, true_and, and_false, false_and, and_self, reduceIte]; done) | (simp_all [knC]; done), rfl⟩

set_option maxRecDepth 100000 in
set_option maxHeartbeats 4000000 in
theorem ct_Sett_isInRange {X : mX} {l : Launch} {M : mM} {x v : Int32} : Ct X l uSett_isInRange (rk 1 22) [.int x, .int v] M (fun r M' => r = some (.int (rgC x v)) ∧ M' = M) := by
  refine Ct.of (by decide) (Nat.le_of_ble_eq_true rfl) ?_
  show G X l uSett_isInRange (rk 1 22) 0 0 M 0 [some (.int x), some (.int v)] [] _
  refine g_iload_n 0 dSett_isInRange_0 rfl ?_
  by_cases s1_1 : x = 1
  · refine g_top 1 s1_1 ?_
    refine g_tableIn 1 32 dSett_isInRange_1 (by decide) (by decide) rfl rfl ?_
    refine g_iload_n 32 dSett_isInRange_32 rfl ?_
    refine g_iconst 33 0 dSett_isInRange_33 rfl ?_
    refine g_sipush 34 200 dSett_isInRange_34 rfl ?_
    refine g_callS 37 [_, _, _] dSett_isInRange_37 cs_Sett_21 rfl rfl ⟨(Nat.le_of_ble_eq_true rfl), (Nat.le_of_ble_eq_true rfl)⟩ (Nat.le_of_ble_eq_true rfl) (ct_isWithin) (Nat.le_of_ble_eq_true rfl) (Nat.le_of_ble_eq_true rfl) ?_
    rintro _ M2 ⟨rfl, hM2⟩
    rw [hM2]
    clear hM2 M2
    exact g_zret 40 dSett_isInRange_40 rfl (wi_z _ _ _) ⟨by simp_all [rgC], rfl⟩
  by_cases s1_2 : x = 2
  · refine g_top 2 s1_2 ?_
    refine g_tableIn 1 57 dSett_isInRange_1 (by decide) (by decide) rfl rfl ?_
    refine g_iconst 57 1 dSett_isInRange_57 rfl ?_
    exact g_zret 58 dSett_isInRange_58 rfl (by decide) ⟨by simp_all [rgC], rfl⟩
  by_cases s1_3 : x = 3
  · refine g_top 3 s1_3 ?_
    refine g_tableIn 1 41 dSett_isInRange_1 (by decide) (by decide) rfl rfl ?_
    refine g_iload_n 41 dSett_isInRange_41 rfl ?_
    refine g_iconst 42 0 dSett_isInRange_42 rfl ?_
    refine g_bipush 43 12 dSett_isInRange_43 rfl ?_
    refine g_callS 45 [_, _, _] dSett_isInRange_45 cs_Sett_21 rfl rfl ⟨(Nat.le_of_ble_eq_true rfl), (Nat.le_of_ble_eq_true rfl)⟩ (Nat.le_of_ble_eq_true rfl) (ct_isWithin) (Nat.le_of_ble_eq_true rfl) (Nat.le_of_ble_eq_true rfl) ?_
    rintro _ M2 ⟨rfl, hM2⟩
    rw [hM2]
    clear hM2 M2
    exact g_zret 48 dSett_isInRange_48 rfl (wi_z _ _ _) ⟨by simp_all [rgC], rfl⟩
  by_cases s1_4 : x = 4
  · refine g_top 4 s1_4 ?_
    refine g_tableIn 1 49 dSett_isInRange_1 (by decide) (by decide) rfl rfl ?_
    refine g_iload_n 49 dSett_isInRange_49 rfl ?_
    refine g_iconst 50 0 dSett_isInRange_50 rfl ?_
    refine g_bipush 51 64 dSett_isInRange_51 rfl ?_
    refine g_callS 53 [_, _, _] dSett_isInRange_53 cs_Sett_21 rfl rfl ⟨(Nat.le_of_ble_eq_true rfl), (Nat.le_of_ble_eq_true rfl)⟩ (Nat.le_of_ble_eq_true rfl) (ct_isWithin) (Nat.le_of_ble_eq_true rfl) (Nat.le_of_ble_eq_true rfl) ?_
    rintro _ M2 ⟨rfl, hM2⟩
    rw [hM2]
    clear hM2 M2
    exact g_zret 56 dSett_isInRange_56 rfl (wi_z _ _ _) ⟨by simp_all [rgC], rfl⟩
  refine g_tableOut 1 57 dSett_isInRange_1 (by have q0 := lv_neT s1_1 (a := 1) rfl; have q1 := lv_neT s1_2 (a := 2) rfl; have q2 := lv_neT s1_3 (a := 3) rfl; have q3 := lv_neT s1_4 (a := 4) rfl; omega) rfl ?_
  refine g_iconst 57 1 dSett_isInRange_57 rfl ?_
  exact g_zret 58 dSett_isInRange_58 rfl (by decide) ⟨by simp_all [rgC], rfl⟩

theorem odd_of {x : Int32} (h1 : ¬ x < 1) (h2 : ¬ 23 < x) : ∃ j : Nat, 1 ≤ j ∧ j ≤ 23 ∧ x = nI j := by
  obtain ⟨j, hj, e⟩ := nI_of2 (x := x) (M := 23) (n := 23) rfl (fun q => h1 (by rw [Int32.lt_iff_toInt_lt] at q ⊢; have : (1 : Int32).toInt = 1 := rfl; have : (0 : Int32).toInt = 0 := rfl; omega)) (Int32.not_lt.mp h2)
  subst e
  refine ⟨j, Nat.pos_of_ne_zero fun q => ?_, hj, rfl⟩
  subst q
  exact h1 (by decide)
/-- the number of a stream -/
def isStr (x : Int32) : Prop := ∃ k, k < 12 ∧ x = nI (2 * k + 1)
set_option maxRecDepth 100000 in
set_option maxHeartbeats 4000000 in
theorem ct_End_streamOf {X : mX} {l : Launch} {M : mM} {e k : Nat} (hS : Shp M) (he : e < 2) (hk : k < 12) : Ct X l uEnd_streamOf (rk 1 22) [.ref (9 + 80 * e), .int (nI (2 * k + 1))] M (fun r M' => r = some (.ref (29 + 80 * e + 5 * k)) ∧ M' = M) := by
  refine Ct.of (by decide) (Nat.le_of_ble_eq_true rfl) ?_
  show G X l uEnd_streamOf (rk 1 22) 0 0 M 0 [some (.ref (9 + 80 * e)), some (.int (nI (2 * k + 1)))] [] _
  refine g_iload_n 0 dEnd_streamOf_0 rfl ?_
  refine g_iconst 1 1 dEnd_streamOf_1 rfl ?_
  refine g_bipush 2 23 dEnd_streamOf_2 rfl ?_
  refine g_callS 4 [_, _, _] dEnd_streamOf_4 cs_End_88 rfl rfl ⟨(Nat.le_of_ble_eq_true rfl), (Nat.le_of_ble_eq_true rfl)⟩ (Nat.le_of_ble_eq_true rfl) (ct_isWithin) (Nat.le_of_ble_eq_true rfl) (Nat.le_of_ble_eq_true rfl) ?_
  rintro _ M2 ⟨rfl, hM2⟩
  rw [hM2]
  clear hM2 M2
  refine g_if_eq 7 16 dEnd_streamOf_7 rfl (fun h7 => ?_) (fun h7 => ?_)
  · exact absurd h7 (by rcases (by omega : k = 0 ∨ k = 1 ∨ k = 2 ∨ k = 3 ∨ k = 4 ∨ k = 5 ∨ k = 6 ∨ k = 7 ∨ k = 8 ∨ k = 9 ∨ k = 10 ∨ k = 11) with rfl | rfl | rfl | rfl | rfl | rfl | rfl | rfl | rfl | rfl | rfl | rfl <;> decide)
  · refine g_iload_n 10 dEnd_streamOf_10 rfl ?_
    refine g_iconst 11 (nI 2) dEnd_streamOf_11 rfl ?_
    refine g_iremN 12 dEnd_streamOf_12 (by omega) (by decide) (by decide) ?_
    refine g_if_neN 13 18 dEnd_streamOf_13 rfl (by omega) (fun h13 => ?_) (fun h13 => ?_)
    · refine g_aload_n 18 dEnd_streamOf_18 rfl ?_
      refine g_getr 19 2 9 dEnd_streamOf_19 fs_End_44 rfl (hS.tEnd he) (hS.rEnd9 he) ?_
      refine g_iload_n 22 dEnd_streamOf_22 rfl ?_
      refine g_iconst 23 (nI 2) dEnd_streamOf_23 rfl ?_
      refine g_idivN 24 dEnd_streamOf_24 (by omega) (by decide) (by decide) ?_
      refine g_top (nI (k)) (by rw [show (2 * k + 1) / 2 = k by omega]) ?_
      refine g_aaldN 25 5 (o := some _) dEnd_streamOf_25 rfl (by decide) (hS.TStrs he) (by omega) (by decide) (hS.rStrs he hk) ?_
      exact g_aret 26 dEnd_streamOf_26 rfl (Or.inl ⟨_, rfl⟩) ⟨rfl, rfl⟩
    · exact absurd h13 (by omega)

set_option maxRecDepth 100000 in
set_option maxHeartbeats 4000000 in
theorem ct_End_streamOf_no {X : mX} {l : Launch} {M : mM} {e : Nat} {x : Int32} (hS : Shp M) (he : e < 2) (hx : ¬ isStr x) : Ct X l uEnd_streamOf (rk 1 22) [.ref (9 + 80 * e), .int x] M (fun r M' => r = some (.null) ∧ M' = M) := by
  refine Ct.of (by decide) (Nat.le_of_ble_eq_true rfl) ?_
  show G X l uEnd_streamOf (rk 1 22) 0 0 M 0 [some (.ref (9 + 80 * e)), some (.int x)] [] _
  refine g_iload_n 0 dEnd_streamOf_0 rfl ?_
  refine g_iconst 1 1 dEnd_streamOf_1 rfl ?_
  refine g_bipush 2 23 dEnd_streamOf_2 rfl ?_
  refine g_callS 4 [_, _, _] dEnd_streamOf_4 cs_End_88 rfl rfl ⟨(Nat.le_of_ble_eq_true rfl), (Nat.le_of_ble_eq_true rfl)⟩ (Nat.le_of_ble_eq_true rfl) (ct_isWithin) (Nat.le_of_ble_eq_true rfl) (Nat.le_of_ble_eq_true rfl) ?_
  rintro _ M2 ⟨rfl, hM2⟩
  rw [hM2]
  clear hM2 M2
  refine g_if_eq 7 16 dEnd_streamOf_7 rfl (fun h7 => ?_) (fun h7 => ?_)
  · refine g_null 16 dEnd_streamOf_16 ?_
    exact g_aretN 17 dEnd_streamOf_17 rfl (Or.inl ⟨_, rfl⟩) ⟨rfl, rfl⟩
  · obtain ⟨j, hj1, hj2, rfl⟩ := odd_of (x := x) (fun q => h7 (by simp [wi, q])) (fun q => h7 (by simp [wi, q]))
    refine g_iload_n 10 dEnd_streamOf_10 rfl ?_
    
    refine g_iconst 11 2 dEnd_streamOf_11 rfl ?_
    refine g_irem 12 dEnd_streamOf_12 (by decide) ?_
    refine g_if_ne 13 18 dEnd_streamOf_13 rfl (fun h13 => ?_) (fun h13 => ?_)
    · exact absurd ⟨j / 2, by omega, by rw [show 2 * (j / 2) + 1 = j by (have := h13; have hr : nI j - nI j / 2 * 2 = nI (j % 2) := pk_rem (by omega) (by decide) (by decide); rw [hr] at h13; have : j % 2 ≠ 0 := fun q => h13 (by rw [q]; rfl); omega)]⟩ hx
    · refine g_null 16 dEnd_streamOf_16 ?_
      exact g_aretN 17 dEnd_streamOf_17 rfl (Or.inl ⟨_, rfl⟩) ⟨rfl, rfl⟩

set_option maxRecDepth 100000 in
set_option maxHeartbeats 4000000 in
theorem ct_streamOf {X : mX} {l : Launch} {M : mM} {e k : Nat} (hS : Shp M) (he : e < 2) (hk : k < 12) : Ct X l uLink_streamOf (rk 2 43) [.ref (9 + 80 * e), .int (nI (2 * k + 1))] M (fun r M' => r = some (.ref (29 + 80 * e + 5 * k)) ∧ M' = M) := by
  refine Ct.of (by decide) (Nat.le_of_ble_eq_true rfl) ?_
  show G X l uLink_streamOf (rk 2 43) 0 0 M 0 [some (.ref (9 + 80 * e)), some (.int (nI (2 * k + 1)))] [] _
  refine g_aload_n 0 dLink_streamOf_0 rfl ?_
  refine g_ifnonnull 1 8 dLink_streamOf_1 rfl ?_
  refine g_aload_n 8 dLink_streamOf_8 rfl ?_
  refine g_iload_n 9 dLink_streamOf_9 rfl ?_
  refine g_callV 10 [_] dLink_streamOf_10 cs_Link_210 rfl (ci := 2) rfl (by decide) (hS.tEnd he) rfl ⟨(Nat.le_of_ble_eq_true rfl), (Nat.le_of_ble_eq_true rfl)⟩ (Nat.le_of_ble_eq_true rfl) (ct_End_streamOf hS he hk) (Nat.le_of_ble_eq_true rfl) (Nat.le_of_ble_eq_true rfl) ?_
  rintro _ M2 ⟨rfl, hM2⟩
  rw [hM2]
  clear hM2 M2
  exact g_aret 13 dLink_streamOf_13 rfl (Or.inl ⟨_, rfl⟩) ⟨rfl, rfl⟩

set_option maxRecDepth 100000 in
set_option maxHeartbeats 4000000 in
theorem ct_streamOf_no {X : mX} {l : Launch} {M : mM} {e : Nat} {x : Int32} (hS : Shp M) (he : e < 2) (hx : ¬ isStr x) : Ct X l uLink_streamOf (rk 2 43) [.ref (9 + 80 * e), .int x] M (fun r M' => r = some (.null) ∧ M' = M) := by
  refine Ct.of (by decide) (Nat.le_of_ble_eq_true rfl) ?_
  show G X l uLink_streamOf (rk 2 43) 0 0 M 0 [some (.ref (9 + 80 * e)), some (.int x)] [] _
  refine g_aload_n 0 dLink_streamOf_0 rfl ?_
  refine g_ifnonnull 1 8 dLink_streamOf_1 rfl ?_
  refine g_aload_n 8 dLink_streamOf_8 rfl ?_
  refine g_iload_n 9 dLink_streamOf_9 rfl ?_
  refine g_callV 10 [_] dLink_streamOf_10 cs_Link_210 rfl (ci := 2) rfl (by decide) (hS.tEnd he) rfl ⟨(Nat.le_of_ble_eq_true rfl), (Nat.le_of_ble_eq_true rfl)⟩ (Nat.le_of_ble_eq_true rfl) (ct_End_streamOf_no hS he hx) (Nat.le_of_ble_eq_true rfl) (Nat.le_of_ble_eq_true rfl) ?_
  rintro _ M2 ⟨rfl, hM2⟩
  rw [hM2]
  clear hM2 M2
  exact g_aretN 13 dLink_streamOf_13 rfl (Or.inl ⟨_, rfl⟩) ⟨rfl, rfl⟩

set_option maxRecDepth 100000 in
set_option maxHeartbeats 4000000 in
theorem ct_streamOf_N {X : mX} {l : Launch} {M : mM} {x : Int32} : Ct X l uLink_streamOf (rk 2 43) [.null, .int x] M (fun r M' => r = some (.null) ∧ M' = M) := by
  refine Ct.of (by decide) (Nat.le_of_ble_eq_true rfl) ?_
  show G X l uLink_streamOf (rk 2 43) 0 0 M 0 [some (.null), some (.int x)] [] _
  refine g_aload_nN 0 dLink_streamOf_0 rfl ?_
  refine g_ifnonnullN 1 dLink_streamOf_1 ?_
  refine g_null 4 dLink_streamOf_4 ?_
  refine g_goto 5 13 dLink_streamOf_5 rfl ?_
  exact g_aretN 13 dLink_streamOf_13 rfl (Or.inl ⟨_, rfl⟩) ⟨rfl, rfl⟩

set_option maxRecDepth 100000 in
set_option maxHeartbeats 4000000 in
theorem ct_Link_down {X : mX} {l : Launch} {M : mM} {e : Nat} (hS : Shp M) (he : e < 2) : Ct X l uLink_down (rk 1 21) [.ref 3, .int (nI e)] M (fun r M' => r = some (.int (Kdown M e)) ∧ M' = M) := by
  refine Ct.of (by decide) (Nat.le_of_ble_eq_true rfl) ?_
  show G X l uLink_down (rk 1 21) 0 0 M 0 [some (.ref 3), some (.int (nI e)), none] [] _
  refine g_aload_n 0 dLink_down_0 rfl ?_
  refine g_iload_n 1 dLink_down_1 rfl ?_
  refine g_callV 2 [_] dLink_down_2 cs_Link_128 rfl (ci := 0) rfl (by decide) hS.link rfl ⟨(Nat.le_of_ble_eq_true rfl), (Nat.le_of_ble_eq_true rfl)⟩ (Nat.le_of_ble_eq_true rfl) (ct_endOf hS he) (Nat.le_of_ble_eq_true rfl) (Nat.le_of_ble_eq_true rfl) ?_
  rintro _ M2 ⟨rfl, hM2⟩
  rw [hM2]
  clear hM2 M2
  refine g_astore_n 5 dLink_down_5 (by decide) rfl ?_
  refine g_aload_n 6 dLink_down_6 rfl ?_
  refine g_ifnonnull 7 14 dLink_down_7 rfl ?_
  refine g_aload_n 14 dLink_down_14 rfl ?_
  refine g_geti 15 2 3 dLink_down_15 fs_Link_135 rfl (hS.tEnd he) ?_
  exact g_iret 18 dLink_down_18 rfl ⟨rfl, rfl⟩

set_option maxRecDepth 100000 in
set_option maxHeartbeats 4000000 in
theorem ct_Link_down_no {X : mX} {l : Launch} {M : mM} {x : Int32} (h0 : ¬ x = 0) (h1 : ¬ x = 1) (hl : (mT M 3).1 = 0) : Ct X l uLink_down (rk 1 21) [.ref 3, .int x] M (fun r M' => r = some (.int (-1)) ∧ M' = M) := by
  refine Ct.of (by decide) (Nat.le_of_ble_eq_true rfl) ?_
  show G X l uLink_down (rk 1 21) 0 0 M 0 [some (.ref 3), some (.int x), none] [] _
  refine g_aload_n 0 dLink_down_0 rfl ?_
  refine g_iload_n 1 dLink_down_1 rfl ?_
  refine g_callV 2 [_] dLink_down_2 cs_Link_128 rfl (ci := 0) rfl (by decide) hl rfl ⟨(Nat.le_of_ble_eq_true rfl), (Nat.le_of_ble_eq_true rfl)⟩ (Nat.le_of_ble_eq_true rfl) (ct_endOf_no h0 h1) (Nat.le_of_ble_eq_true rfl) (Nat.le_of_ble_eq_true rfl) ?_
  rintro _ M2 ⟨rfl, hM2⟩
  rw [hM2]
  clear hM2 M2
  refine g_astore_nN 5 dLink_down_5 (by decide) rfl ?_
  refine g_aload_nN 6 dLink_down_6 rfl ?_
  refine g_ifnonnullN 7 dLink_down_7 ?_
  refine g_iconst 10 (-1) dLink_down_10 rfl ?_
  refine g_goto 11 18 dLink_down_11 rfl ?_
  exact g_iret 18 dLink_down_18 rfl ⟨rfl, rfl⟩

set_option maxRecDepth 100000 in
set_option maxHeartbeats 4000000 in
theorem ct_Link_state {X : mX} {l : Launch} {M : mM} {e k : Nat} (hS : Shp M) (he : e < 2) (hk : k < 12) : Ct X l uLink_state (rk 3 64) [.ref 3, .int (nI e), .int (nI (2 * k + 1))] M (fun r M' => r = some (.int (Kstate M e k)) ∧ M' = M) := by
  refine Ct.of (by decide) (Nat.le_of_ble_eq_true rfl) ?_
  show G X l uLink_state (rk 3 64) 0 0 M 0 [some (.ref 3), some (.int (nI e)), some (.int (nI (2 * k + 1))), none] [] _
  refine g_aload_n 0 dLink_state_0 rfl ?_
  refine g_iload_n 1 dLink_state_1 rfl ?_
  refine g_callV 2 [_] dLink_state_2 cs_Link_128 rfl (ci := 0) rfl (by decide) hS.link rfl ⟨(Nat.le_of_ble_eq_true rfl), (Nat.le_of_ble_eq_true rfl)⟩ (Nat.le_of_ble_eq_true rfl) (ct_endOf hS he) (Nat.le_of_ble_eq_true rfl) (Nat.le_of_ble_eq_true rfl) ?_
  rintro _ M2 ⟨rfl, hM2⟩
  rw [hM2]
  clear hM2 M2
  refine g_iload_n 5 dLink_state_5 rfl ?_
  refine g_callS 6 [_, _] dLink_state_6 cs_Link_58 rfl rfl ⟨(Nat.le_of_ble_eq_true rfl), (Nat.le_of_ble_eq_true rfl)⟩ (Nat.le_of_ble_eq_true rfl) (ct_streamOf hS he hk) (Nat.le_of_ble_eq_true rfl) (Nat.le_of_ble_eq_true rfl) ?_
  rintro _ M2 ⟨rfl, hM2⟩
  rw [hM2]
  clear hM2 M2
  refine g_astore_n 9 dLink_state_9 (by decide) rfl ?_
  refine g_aload_n 10 dLink_state_10 rfl ?_
  refine g_ifnonnull 11 18 dLink_state_11 rfl ?_
  refine g_aload_n 18 dLink_state_18 rfl ?_
  refine g_geti 19 8 1 dLink_state_19 fs_Link_93 rfl (hS.tStr he hk) ?_
  exact g_iret 22 dLink_state_22 rfl ⟨rfl, rfl⟩

set_option maxRecDepth 100000 in
set_option maxHeartbeats 4000000 in
theorem ct_Link_state_ns {X : mX} {l : Launch} {M : mM} {e : Nat} {x : Int32} (hS : Shp M) (he : e < 2) (hx : ¬ isStr x) : Ct X l uLink_state (rk 3 64) [.ref 3, .int (nI e), .int x] M (fun r M' => r = some (.int (-1)) ∧ M' = M) := by
  refine Ct.of (by decide) (Nat.le_of_ble_eq_true rfl) ?_
  show G X l uLink_state (rk 3 64) 0 0 M 0 [some (.ref 3), some (.int (nI e)), some (.int x), none] [] _
  refine g_aload_n 0 dLink_state_0 rfl ?_
  refine g_iload_n 1 dLink_state_1 rfl ?_
  refine g_callV 2 [_] dLink_state_2 cs_Link_128 rfl (ci := 0) rfl (by decide) hS.link rfl ⟨(Nat.le_of_ble_eq_true rfl), (Nat.le_of_ble_eq_true rfl)⟩ (Nat.le_of_ble_eq_true rfl) (ct_endOf hS he) (Nat.le_of_ble_eq_true rfl) (Nat.le_of_ble_eq_true rfl) ?_
  rintro _ M2 ⟨rfl, hM2⟩
  rw [hM2]
  clear hM2 M2
  refine g_iload_n 5 dLink_state_5 rfl ?_
  refine g_callS 6 [_, _] dLink_state_6 cs_Link_58 rfl rfl ⟨(Nat.le_of_ble_eq_true rfl), (Nat.le_of_ble_eq_true rfl)⟩ (Nat.le_of_ble_eq_true rfl) (ct_streamOf_no hS he hx) (Nat.le_of_ble_eq_true rfl) (Nat.le_of_ble_eq_true rfl) ?_
  rintro _ M2 ⟨rfl, hM2⟩
  rw [hM2]
  clear hM2 M2
  refine g_astore_nN 9 dLink_state_9 (by decide) rfl ?_
  refine g_aload_nN 10 dLink_state_10 rfl ?_
  refine g_ifnonnullN 11 dLink_state_11 ?_
  refine g_iconst 14 (-1) dLink_state_14 rfl ?_
  refine g_goto 15 22 dLink_state_15 rfl ?_
  exact g_iret 22 dLink_state_22 rfl ⟨rfl, rfl⟩

set_option maxRecDepth 100000 in
set_option maxHeartbeats 4000000 in
theorem ct_Link_state_no {X : mX} {l : Launch} {M : mM} {x y : Int32} (hS : Shp M) (h0 : ¬ x = 0) (h1 : ¬ x = 1) : Ct X l uLink_state (rk 3 64) [.ref 3, .int x, .int y] M (fun r M' => r = some (.int (-1)) ∧ M' = M) := by
  refine Ct.of (by decide) (Nat.le_of_ble_eq_true rfl) ?_
  show G X l uLink_state (rk 3 64) 0 0 M 0 [some (.ref 3), some (.int x), some (.int y), none] [] _
  refine g_aload_n 0 dLink_state_0 rfl ?_
  refine g_iload_n 1 dLink_state_1 rfl ?_
  refine g_callV 2 [_] dLink_state_2 cs_Link_128 rfl (ci := 0) rfl (by decide) hS.link rfl ⟨(Nat.le_of_ble_eq_true rfl), (Nat.le_of_ble_eq_true rfl)⟩ (Nat.le_of_ble_eq_true rfl) (ct_endOf_no h0 h1) (Nat.le_of_ble_eq_true rfl) (Nat.le_of_ble_eq_true rfl) ?_
  rintro _ M2 ⟨rfl, hM2⟩
  rw [hM2]
  clear hM2 M2
  refine g_iload_n 5 dLink_state_5 rfl ?_
  refine g_callS 6 [_, _] dLink_state_6 cs_Link_58 rfl rfl ⟨(Nat.le_of_ble_eq_true rfl), (Nat.le_of_ble_eq_true rfl)⟩ (Nat.le_of_ble_eq_true rfl) (ct_streamOf_N) (Nat.le_of_ble_eq_true rfl) (Nat.le_of_ble_eq_true rfl) ?_
  rintro _ M2 ⟨rfl, hM2⟩
  rw [hM2]
  clear hM2 M2
  refine g_astore_nN 9 dLink_state_9 (by decide) rfl ?_
  refine g_aload_nN 10 dLink_state_10 rfl ?_
  refine g_ifnonnullN 11 dLink_state_11 ?_
  refine g_iconst 14 (-1) dLink_state_14 rfl ?_
  refine g_goto 15 22 dLink_state_15 rfl ?_
  exact g_iret 22 dLink_state_22 rfl ⟨rfl, rfl⟩
end
section
theorem dFrame_init_0 : decode uFrame_init.2.1 0 = .ok (.aload_n 0, 1) := by decide +kernel
theorem dFrame_init_1 : decode uFrame_init.2.1 1 = .ok (.invokespecial 3, 3) := by decide +kernel
theorem dFrame_init_4 : decode uFrame_init.2.1 4 = .ok (.aload_n 0, 1) := by decide +kernel
theorem dFrame_init_5 : decode uFrame_init.2.1 5 = .ok (.iload_n 1, 1) := by decide +kernel
theorem dFrame_init_6 : decode uFrame_init.2.1 6 = .ok (.putfield 9, 3) := by decide +kernel
theorem dFrame_init_9 : decode uFrame_init.2.1 9 = .ok (.aload_n 0, 1) := by decide +kernel
theorem dFrame_init_10 : decode uFrame_init.2.1 10 = .ok (.iload_n 2, 1) := by decide +kernel
theorem dFrame_init_11 : decode uFrame_init.2.1 11 = .ok (.putfield 15, 3) := by decide +kernel
theorem dFrame_init_14 : decode uFrame_init.2.1 14 = .ok (.aload_n 0, 1) := by decide +kernel
theorem dFrame_init_15 : decode uFrame_init.2.1 15 = .ok (.iload_n 3, 1) := by decide +kernel
theorem dFrame_init_16 : decode uFrame_init.2.1 16 = .ok (.putfield 18, 3) := by decide +kernel
theorem dFrame_init_19 : decode uFrame_init.2.1 19 = .ok (.aload_n 0, 1) := by decide +kernel
theorem dFrame_init_20 : decode uFrame_init.2.1 20 = .ok (.iload 4, 2) := by decide +kernel
theorem dFrame_init_22 : decode uFrame_init.2.1 22 = .ok (.putfield 21, 3) := by decide +kernel
theorem dFrame_init_25 : decode uFrame_init.2.1 25 = .ok (.aload_n 0, 1) := by decide +kernel
theorem dFrame_init_26 : decode uFrame_init.2.1 26 = .ok (.iload 5, 2) := by decide +kernel
theorem dFrame_init_28 : decode uFrame_init.2.1 28 = .ok (.putfield 25, 3) := by decide +kernel
theorem dFrame_init_31 : decode uFrame_init.2.1 31 = .ok (.aload_n 0, 1) := by decide +kernel
theorem dFrame_init_32 : decode uFrame_init.2.1 32 = .ok (.aload 6, 2) := by decide +kernel
theorem dFrame_init_34 : decode uFrame_init.2.1 34 = .ok (.putfield 28, 3) := by decide +kernel
theorem dFrame_init_37 : decode uFrame_init.2.1 37 = .ok (.aload_n 0, 1) := by decide +kernel
theorem dFrame_init_38 : decode uFrame_init.2.1 38 = .ok (.aload 7, 2) := by decide +kernel
theorem dFrame_init_40 : decode uFrame_init.2.1 40 = .ok (.putfield 32, 3) := by decide +kernel
theorem dFrame_init_43 : decode uFrame_init.2.1 43 = .ok (.return_, 1) := by decide +kernel
theorem dFrame_ofReset_0 : decode uFrame_ofReset.2.1 0 = .ok (.new 10, 3) := by decide +kernel
theorem dFrame_ofReset_3 : decode uFrame_ofReset.2.1 3 = .ok (.dup, 1) := by decide +kernel
theorem dFrame_ofReset_4 : decode uFrame_ofReset.2.1 4 = .ok (.iconst 3, 1) := by decide +kernel
theorem dFrame_ofReset_5 : decode uFrame_ofReset.2.1 5 = .ok (.iload_n 0, 1) := by decide +kernel
theorem dFrame_ofReset_6 : decode uFrame_ofReset.2.1 6 = .ok (.iload_n 1, 1) := by decide +kernel
theorem dFrame_ofReset_7 : decode uFrame_ofReset.2.1 7 = .ok (.iconst 0, 1) := by decide +kernel
theorem dFrame_ofReset_8 : decode uFrame_ofReset.2.1 8 = .ok (.iconst 0, 1) := by decide +kernel
theorem dFrame_ofReset_9 : decode uFrame_ofReset.2.1 9 = .ok (.aconst_null, 1) := by decide +kernel
theorem dFrame_ofReset_10 : decode uFrame_ofReset.2.1 10 = .ok (.aconst_null, 1) := by decide +kernel
theorem dFrame_ofReset_11 : decode uFrame_ofReset.2.1 11 = .ok (.invokespecial 36, 3) := by decide +kernel
theorem dFrame_ofReset_14 : decode uFrame_ofReset.2.1 14 = .ok (.areturn, 1) := by decide +kernel
theorem dFrame_ofSetting_0 : decode uFrame_ofSetting.2.1 0 = .ok (.new 10, 3) := by decide +kernel
theorem dFrame_ofSetting_3 : decode uFrame_ofSetting.2.1 3 = .ok (.dup, 1) := by decide +kernel
theorem dFrame_ofSetting_4 : decode uFrame_ofSetting.2.1 4 = .ok (.iconst 4, 1) := by decide +kernel
theorem dFrame_ofSetting_5 : decode uFrame_ofSetting.2.1 5 = .ok (.iconst 0, 1) := by decide +kernel
theorem dFrame_ofSetting_6 : decode uFrame_ofSetting.2.1 6 = .ok (.iload_n 1, 1) := by decide +kernel
theorem dFrame_ofSetting_7 : decode uFrame_ofSetting.2.1 7 = .ok (.iconst 0, 1) := by decide +kernel
theorem dFrame_ofSetting_8 : decode uFrame_ofSetting.2.1 8 = .ok (.iload_n 0, 1) := by decide +kernel
theorem dFrame_ofSetting_9 : decode uFrame_ofSetting.2.1 9 = .ok (.aconst_null, 1) := by decide +kernel
theorem dFrame_ofSetting_10 : decode uFrame_ofSetting.2.1 10 = .ok (.aconst_null, 1) := by decide +kernel
theorem dFrame_ofSetting_11 : decode uFrame_ofSetting.2.1 11 = .ok (.invokespecial 36, 3) := by decide +kernel
theorem dFrame_ofSetting_14 : decode uFrame_ofSetting.2.1 14 = .ok (.areturn, 1) := by decide +kernel
theorem dFrame_ofAck_0 : decode uFrame_ofAck.2.1 0 = .ok (.new 10, 3) := by decide +kernel
theorem dFrame_ofAck_3 : decode uFrame_ofAck.2.1 3 = .ok (.dup, 1) := by decide +kernel
theorem dFrame_ofAck_4 : decode uFrame_ofAck.2.1 4 = .ok (.iconst 4, 1) := by decide +kernel
theorem dFrame_ofAck_5 : decode uFrame_ofAck.2.1 5 = .ok (.iconst 0, 1) := by decide +kernel
theorem dFrame_ofAck_6 : decode uFrame_ofAck.2.1 6 = .ok (.iconst 0, 1) := by decide +kernel
theorem dFrame_ofAck_7 : decode uFrame_ofAck.2.1 7 = .ok (.iconst 1, 1) := by decide +kernel
theorem dFrame_ofAck_8 : decode uFrame_ofAck.2.1 8 = .ok (.iconst 0, 1) := by decide +kernel
theorem dFrame_ofAck_9 : decode uFrame_ofAck.2.1 9 = .ok (.aconst_null, 1) := by decide +kernel
theorem dFrame_ofAck_10 : decode uFrame_ofAck.2.1 10 = .ok (.aconst_null, 1) := by decide +kernel
theorem dFrame_ofAck_11 : decode uFrame_ofAck.2.1 11 = .ok (.invokespecial 36, 3) := by decide +kernel
theorem dFrame_ofAck_14 : decode uFrame_ofAck.2.1 14 = .ok (.areturn, 1) := by decide +kernel
theorem dFrame_ofFarewell_0 : decode uFrame_ofFarewell.2.1 0 = .ok (.new 10, 3) := by decide +kernel
theorem dFrame_ofFarewell_3 : decode uFrame_ofFarewell.2.1 3 = .ok (.dup, 1) := by decide +kernel
theorem dFrame_ofFarewell_4 : decode uFrame_ofFarewell.2.1 4 = .ok (.bipush 7, 2) := by decide +kernel
theorem dFrame_ofFarewell_6 : decode uFrame_ofFarewell.2.1 6 = .ok (.iconst 0, 1) := by decide +kernel
theorem dFrame_ofFarewell_7 : decode uFrame_ofFarewell.2.1 7 = .ok (.iload_n 0, 1) := by decide +kernel
theorem dFrame_ofFarewell_8 : decode uFrame_ofFarewell.2.1 8 = .ok (.iconst 0, 1) := by decide +kernel
theorem dFrame_ofFarewell_9 : decode uFrame_ofFarewell.2.1 9 = .ok (.iconst 0, 1) := by decide +kernel
theorem dFrame_ofFarewell_10 : decode uFrame_ofFarewell.2.1 10 = .ok (.aconst_null, 1) := by decide +kernel
theorem dFrame_ofFarewell_11 : decode uFrame_ofFarewell.2.1 11 = .ok (.aconst_null, 1) := by decide +kernel
theorem dFrame_ofFarewell_12 : decode uFrame_ofFarewell.2.1 12 = .ok (.invokespecial 36, 3) := by decide +kernel
theorem dFrame_ofFarewell_15 : decode uFrame_ofFarewell.2.1 15 = .ok (.areturn, 1) := by decide +kernel
theorem dFrame_ofWindow_0 : decode uFrame_ofWindow.2.1 0 = .ok (.new 10, 3) := by decide +kernel
theorem dFrame_ofWindow_3 : decode uFrame_ofWindow.2.1 3 = .ok (.dup, 1) := by decide +kernel
theorem dFrame_ofWindow_4 : decode uFrame_ofWindow.2.1 4 = .ok (.bipush 8, 2) := by decide +kernel
theorem dFrame_ofWindow_6 : decode uFrame_ofWindow.2.1 6 = .ok (.iload_n 0, 1) := by decide +kernel
theorem dFrame_ofWindow_7 : decode uFrame_ofWindow.2.1 7 = .ok (.iload_n 1, 1) := by decide +kernel
theorem dFrame_ofWindow_8 : decode uFrame_ofWindow.2.1 8 = .ok (.iconst 0, 1) := by decide +kernel
theorem dFrame_ofWindow_9 : decode uFrame_ofWindow.2.1 9 = .ok (.iconst 0, 1) := by decide +kernel
theorem dFrame_ofWindow_10 : decode uFrame_ofWindow.2.1 10 = .ok (.aconst_null, 1) := by decide +kernel
theorem dFrame_ofWindow_11 : decode uFrame_ofWindow.2.1 11 = .ok (.aconst_null, 1) := by decide +kernel
theorem dFrame_ofWindow_12 : decode uFrame_ofWindow.2.1 12 = .ok (.invokespecial 36, 3) := by decide +kernel
theorem dFrame_ofWindow_15 : decode uFrame_ofWindow.2.1 15 = .ok (.areturn, 1) := by decide +kernel
theorem dFrame_ofData_0 : decode uFrame_ofData.2.1 0 = .ok (.new 10, 3) := by decide +kernel
theorem dFrame_ofData_3 : decode uFrame_ofData.2.1 3 = .ok (.dup, 1) := by decide +kernel
theorem dFrame_ofData_4 : decode uFrame_ofData.2.1 4 = .ok (.iconst 0, 1) := by decide +kernel
theorem dFrame_ofData_5 : decode uFrame_ofData.2.1 5 = .ok (.iload_n 0, 1) := by decide +kernel
theorem dFrame_ofData_6 : decode uFrame_ofData.2.1 6 = .ok (.aload_n 1, 1) := by decide +kernel
theorem dFrame_ofData_7 : decode uFrame_ofData.2.1 7 = .ok (.arraylength, 1) := by decide +kernel
theorem dFrame_ofData_8 : decode uFrame_ofData.2.1 8 = .ok (.iload_n 2, 1) := by decide +kernel
theorem dFrame_ofData_9 : decode uFrame_ofData.2.1 9 = .ok (.iconst 0, 1) := by decide +kernel
theorem dFrame_ofData_10 : decode uFrame_ofData.2.1 10 = .ok (.aload_n 1, 1) := by decide +kernel
theorem dFrame_ofData_11 : decode uFrame_ofData.2.1 11 = .ok (.aconst_null, 1) := by decide +kernel
theorem dFrame_ofData_12 : decode uFrame_ofData.2.1 12 = .ok (.invokespecial 36, 3) := by decide +kernel
theorem dFrame_ofData_15 : decode uFrame_ofData.2.1 15 = .ok (.areturn, 1) := by decide +kernel
theorem dFrame_ofHeaders_0 : decode uFrame_ofHeaders.2.1 0 = .ok (.new 10, 3) := by decide +kernel
theorem dFrame_ofHeaders_3 : decode uFrame_ofHeaders.2.1 3 = .ok (.dup, 1) := by decide +kernel
theorem dFrame_ofHeaders_4 : decode uFrame_ofHeaders.2.1 4 = .ok (.iconst 1, 1) := by decide +kernel
theorem dFrame_ofHeaders_5 : decode uFrame_ofHeaders.2.1 5 = .ok (.iload_n 0, 1) := by decide +kernel
theorem dFrame_ofHeaders_6 : decode uFrame_ofHeaders.2.1 6 = .ok (.aload_n 1, 1) := by decide +kernel
theorem dFrame_ofHeaders_7 : decode uFrame_ofHeaders.2.1 7 = .ok (.getfield 39, 3) := by decide +kernel
theorem dFrame_ofHeaders_10 : decode uFrame_ofHeaders.2.1 10 = .ok (.iload_n 2, 1) := by decide +kernel
theorem dFrame_ofHeaders_11 : decode uFrame_ofHeaders.2.1 11 = .ok (.aload_n 1, 1) := by decide +kernel
theorem dFrame_ofHeaders_12 : decode uFrame_ofHeaders.2.1 12 = .ok (.getfield 44, 3) := by decide +kernel
theorem dFrame_ofHeaders_15 : decode uFrame_ofHeaders.2.1 15 = .ok (.aconst_null, 1) := by decide +kernel
theorem dFrame_ofHeaders_16 : decode uFrame_ofHeaders.2.1 16 = .ok (.aload_n 1, 1) := by decide +kernel
theorem dFrame_ofHeaders_17 : decode uFrame_ofHeaders.2.1 17 = .ok (.invokespecial 36, 3) := by decide +kernel
theorem dFrame_ofHeaders_20 : decode uFrame_ofHeaders.2.1 20 = .ok (.areturn, 1) := by decide +kernel
theorem dFrame_part_0 : decode uFrame_part.2.1 0 = .ok (.iload_n 1, 1) := by decide +kernel
theorem dFrame_part_1 : decode uFrame_part.2.1 1 = .ok (.tableswitch 68 0 4 #[35, 40, 45, 50, 63], 35) := by decide +kernel
theorem dFrame_part_36 : decode uFrame_part.2.1 36 = .ok (.aload_n 0, 1) := by decide +kernel
theorem dFrame_part_37 : decode uFrame_part.2.1 37 = .ok (.getfield 9, 3) := by decide +kernel
theorem dFrame_part_40 : decode uFrame_part.2.1 40 = .ok (.ireturn, 1) := by decide +kernel
theorem dFrame_part_41 : decode uFrame_part.2.1 41 = .ok (.aload_n 0, 1) := by decide +kernel
theorem dFrame_part_42 : decode uFrame_part.2.1 42 = .ok (.getfield 15, 3) := by decide +kernel
theorem dFrame_part_45 : decode uFrame_part.2.1 45 = .ok (.ireturn, 1) := by decide +kernel
theorem dFrame_part_46 : decode uFrame_part.2.1 46 = .ok (.aload_n 0, 1) := by decide +kernel
theorem dFrame_part_47 : decode uFrame_part.2.1 47 = .ok (.getfield 18, 3) := by decide +kernel
theorem dFrame_part_50 : decode uFrame_part.2.1 50 = .ok (.ireturn, 1) := by decide +kernel
theorem dFrame_part_51 : decode uFrame_part.2.1 51 = .ok (.aload_n 0, 1) := by decide +kernel
theorem dFrame_part_52 : decode uFrame_part.2.1 52 = .ok (.getfield 21, 3) := by decide +kernel
theorem dFrame_part_55 : decode uFrame_part.2.1 55 = .ok (.ifCond .eq 7, 3) := by decide +kernel
theorem dFrame_part_58 : decode uFrame_part.2.1 58 = .ok (.iconst 1, 1) := by decide +kernel
theorem dFrame_part_59 : decode uFrame_part.2.1 59 = .ok (.goto 4, 3) := by decide +kernel
theorem dFrame_part_62 : decode uFrame_part.2.1 62 = .ok (.iconst 0, 1) := by decide +kernel
theorem dFrame_part_63 : decode uFrame_part.2.1 63 = .ok (.ireturn, 1) := by decide +kernel
theorem dFrame_part_64 : decode uFrame_part.2.1 64 = .ok (.aload_n 0, 1) := by decide +kernel
theorem dFrame_part_65 : decode uFrame_part.2.1 65 = .ok (.getfield 25, 3) := by decide +kernel
theorem dFrame_part_68 : decode uFrame_part.2.1 68 = .ok (.ireturn, 1) := by decide +kernel
theorem dFrame_part_69 : decode uFrame_part.2.1 69 = .ok (.iconst (-1), 1) := by decide +kernel
theorem dFrame_part_70 : decode uFrame_part.2.1 70 = .ok (.ireturn, 1) := by decide +kernel
theorem dBlock_init_0 : decode uBlock_init.2.1 0 = .ok (.aload_n 0, 1) := by decide +kernel
theorem dBlock_init_1 : decode uBlock_init.2.1 1 = .ok (.invokespecial 1, 3) := by decide +kernel
theorem dBlock_init_4 : decode uBlock_init.2.1 4 = .ok (.aload_n 0, 1) := by decide +kernel
theorem dBlock_init_5 : decode uBlock_init.2.1 5 = .ok (.iconst 0, 1) := by decide +kernel
theorem dBlock_init_6 : decode uBlock_init.2.1 6 = .ok (.putfield 7, 3) := by decide +kernel
theorem dBlock_init_9 : decode uBlock_init.2.1 9 = .ok (.aload_n 0, 1) := by decide +kernel
theorem dBlock_init_10 : decode uBlock_init.2.1 10 = .ok (.iconst 0, 1) := by decide +kernel
theorem dBlock_init_11 : decode uBlock_init.2.1 11 = .ok (.putfield 13, 3) := by decide +kernel
theorem dBlock_init_14 : decode uBlock_init.2.1 14 = .ok (.aload_n 0, 1) := by decide +kernel
theorem dBlock_init_15 : decode uBlock_init.2.1 15 = .ok (.iload_n 1, 1) := by decide +kernel
theorem dBlock_init_16 : decode uBlock_init.2.1 16 = .ok (.newarray .int, 2) := by decide +kernel
theorem dBlock_init_18 : decode uBlock_init.2.1 18 = .ok (.putfield 16, 3) := by decide +kernel
theorem dBlock_init_21 : decode uBlock_init.2.1 21 = .ok (.aload_n 0, 1) := by decide +kernel
theorem dBlock_init_22 : decode uBlock_init.2.1 22 = .ok (.iload_n 1, 1) := by decide +kernel
theorem dBlock_init_23 : decode uBlock_init.2.1 23 = .ok (.newarray .int, 2) := by decide +kernel
theorem dBlock_init_25 : decode uBlock_init.2.1 25 = .ok (.putfield 20, 3) := by decide +kernel
theorem dBlock_init_28 : decode uBlock_init.2.1 28 = .ok (.aload_n 0, 1) := by decide +kernel
theorem dBlock_init_29 : decode uBlock_init.2.1 29 = .ok (.iload_n 1, 1) := by decide +kernel
theorem dBlock_init_30 : decode uBlock_init.2.1 30 = .ok (.newarray .int, 2) := by decide +kernel
theorem dBlock_init_32 : decode uBlock_init.2.1 32 = .ok (.putfield 23, 3) := by decide +kernel
theorem dBlock_init_35 : decode uBlock_init.2.1 35 = .ok (.aload_n 0, 1) := by decide +kernel
theorem dBlock_init_36 : decode uBlock_init.2.1 36 = .ok (.iload_n 1, 1) := by decide +kernel
theorem dBlock_init_37 : decode uBlock_init.2.1 37 = .ok (.newarray .int, 2) := by decide +kernel
theorem dBlock_init_39 : decode uBlock_init.2.1 39 = .ok (.putfield 26, 3) := by decide +kernel
theorem dBlock_init_42 : decode uBlock_init.2.1 42 = .ok (.return_, 1) := by decide +kernel
theorem dBlock_add_0 : decode uBlock_add.2.1 0 = .ok (.aload_n 0, 1) := by decide +kernel
theorem dBlock_add_1 : decode uBlock_add.2.1 1 = .ok (.getfield 7, 3) := by decide +kernel
theorem dBlock_add_4 : decode uBlock_add.2.1 4 = .ok (.aload_n 0, 1) := by decide +kernel
theorem dBlock_add_5 : decode uBlock_add.2.1 5 = .ok (.getfield 16, 3) := by decide +kernel
theorem dBlock_add_8 : decode uBlock_add.2.1 8 = .ok (.arraylength, 1) := by decide +kernel
theorem dBlock_add_9 : decode uBlock_add.2.1 9 = .ok (.if_icmp .ge 64, 3) := by decide +kernel
theorem dBlock_add_12 : decode uBlock_add.2.1 12 = .ok (.aload_n 0, 1) := by decide +kernel
theorem dBlock_add_13 : decode uBlock_add.2.1 13 = .ok (.getfield 16, 3) := by decide +kernel
theorem dBlock_add_16 : decode uBlock_add.2.1 16 = .ok (.aload_n 0, 1) := by decide +kernel
theorem dBlock_add_17 : decode uBlock_add.2.1 17 = .ok (.getfield 7, 3) := by decide +kernel
theorem dBlock_add_20 : decode uBlock_add.2.1 20 = .ok (.iload_n 1, 1) := by decide +kernel
theorem dBlock_add_21 : decode uBlock_add.2.1 21 = .ok (.iastore, 1) := by decide +kernel
theorem dBlock_add_22 : decode uBlock_add.2.1 22 = .ok (.aload_n 0, 1) := by decide +kernel
theorem dBlock_add_23 : decode uBlock_add.2.1 23 = .ok (.getfield 20, 3) := by decide +kernel
theorem dBlock_add_26 : decode uBlock_add.2.1 26 = .ok (.aload_n 0, 1) := by decide +kernel
theorem dBlock_add_27 : decode uBlock_add.2.1 27 = .ok (.getfield 7, 3) := by decide +kernel
theorem dBlock_add_30 : decode uBlock_add.2.1 30 = .ok (.iload_n 2, 1) := by decide +kernel
theorem dBlock_add_31 : decode uBlock_add.2.1 31 = .ok (.iastore, 1) := by decide +kernel
theorem dBlock_add_32 : decode uBlock_add.2.1 32 = .ok (.aload_n 0, 1) := by decide +kernel
theorem dBlock_add_33 : decode uBlock_add.2.1 33 = .ok (.getfield 23, 3) := by decide +kernel
theorem dBlock_add_36 : decode uBlock_add.2.1 36 = .ok (.aload_n 0, 1) := by decide +kernel
theorem dBlock_add_37 : decode uBlock_add.2.1 37 = .ok (.getfield 7, 3) := by decide +kernel
theorem dBlock_add_40 : decode uBlock_add.2.1 40 = .ok (.iload_n 3, 1) := by decide +kernel
theorem dBlock_add_41 : decode uBlock_add.2.1 41 = .ok (.iastore, 1) := by decide +kernel
theorem dBlock_add_42 : decode uBlock_add.2.1 42 = .ok (.aload_n 0, 1) := by decide +kernel
theorem dBlock_add_43 : decode uBlock_add.2.1 43 = .ok (.getfield 26, 3) := by decide +kernel
theorem dBlock_add_46 : decode uBlock_add.2.1 46 = .ok (.aload_n 0, 1) := by decide +kernel
theorem dBlock_add_47 : decode uBlock_add.2.1 47 = .ok (.getfield 7, 3) := by decide +kernel
theorem dBlock_add_50 : decode uBlock_add.2.1 50 = .ok (.iload 4, 2) := by decide +kernel
theorem dBlock_add_52 : decode uBlock_add.2.1 52 = .ok (.iastore, 1) := by decide +kernel
theorem dBlock_add_53 : decode uBlock_add.2.1 53 = .ok (.aload_n 0, 1) := by decide +kernel
theorem dBlock_add_54 : decode uBlock_add.2.1 54 = .ok (.dup, 1) := by decide +kernel
theorem dBlock_add_55 : decode uBlock_add.2.1 55 = .ok (.getfield 7, 3) := by decide +kernel
theorem dBlock_add_58 : decode uBlock_add.2.1 58 = .ok (.iconst 1, 1) := by decide +kernel
theorem dBlock_add_59 : decode uBlock_add.2.1 59 = .ok (.iadd, 1) := by decide +kernel
theorem dBlock_add_60 : decode uBlock_add.2.1 60 = .ok (.putfield 7, 3) := by decide +kernel
theorem dBlock_add_63 : decode uBlock_add.2.1 63 = .ok (.aload_n 0, 1) := by decide +kernel
theorem dBlock_add_64 : decode uBlock_add.2.1 64 = .ok (.dup, 1) := by decide +kernel
theorem dBlock_add_65 : decode uBlock_add.2.1 65 = .ok (.getfield 13, 3) := by decide +kernel
theorem dBlock_add_68 : decode uBlock_add.2.1 68 = .ok (.iload_n 2, 1) := by decide +kernel
theorem dBlock_add_69 : decode uBlock_add.2.1 69 = .ok (.iadd, 1) := by decide +kernel
theorem dBlock_add_70 : decode uBlock_add.2.1 70 = .ok (.putfield 13, 3) := by decide +kernel
theorem dBlock_add_73 : decode uBlock_add.2.1 73 = .ok (.return_, 1) := by decide +kernel
theorem dFList_add_0 : decode uFList_add.2.1 0 = .ok (.aload_n 0, 1) := by decide +kernel
theorem dFList_add_1 : decode uFList_add.2.1 1 = .ok (.getfield 22, 3) := by decide +kernel
theorem dFList_add_4 : decode uFList_add.2.1 4 = .ok (.bipush 6, 2) := by decide +kernel
theorem dFList_add_6 : decode uFList_add.2.1 6 = .ok (.if_icmp .ge 43, 3) := by decide +kernel
theorem dFList_add_9 : decode uFList_add.2.1 9 = .ok (.aload_n 0, 1) := by decide +kernel
theorem dFList_add_10 : decode uFList_add.2.1 10 = .ok (.getfield 9, 3) := by decide +kernel
theorem dFList_add_13 : decode uFList_add.2.1 13 = .ok (.aload_n 0, 1) := by decide +kernel
theorem dFList_add_14 : decode uFList_add.2.1 14 = .ok (.getfield 22, 3) := by decide +kernel
theorem dFList_add_17 : decode uFList_add.2.1 17 = .ok (.iload_n 1, 1) := by decide +kernel
theorem dFList_add_18 : decode uFList_add.2.1 18 = .ok (.iastore, 1) := by decide +kernel
theorem dFList_add_19 : decode uFList_add.2.1 19 = .ok (.aload_n 0, 1) := by decide +kernel
theorem dFList_add_20 : decode uFList_add.2.1 20 = .ok (.getfield 15, 3) := by decide +kernel
theorem dFList_add_23 : decode uFList_add.2.1 23 = .ok (.aload_n 0, 1) := by decide +kernel
theorem dFList_add_24 : decode uFList_add.2.1 24 = .ok (.getfield 22, 3) := by decide +kernel
theorem dFList_add_27 : decode uFList_add.2.1 27 = .ok (.iload_n 2, 1) := by decide +kernel
theorem dFList_add_28 : decode uFList_add.2.1 28 = .ok (.iastore, 1) := by decide +kernel
theorem dFList_add_29 : decode uFList_add.2.1 29 = .ok (.aload_n 0, 1) := by decide +kernel
theorem dFList_add_30 : decode uFList_add.2.1 30 = .ok (.getfield 18, 3) := by decide +kernel
theorem dFList_add_33 : decode uFList_add.2.1 33 = .ok (.aload_n 0, 1) := by decide +kernel
theorem dFList_add_34 : decode uFList_add.2.1 34 = .ok (.getfield 22, 3) := by decide +kernel
theorem dFList_add_37 : decode uFList_add.2.1 37 = .ok (.iload_n 3, 1) := by decide +kernel
theorem dFList_add_38 : decode uFList_add.2.1 38 = .ok (.bastore, 1) := by decide +kernel
theorem dFList_add_39 : decode uFList_add.2.1 39 = .ok (.aload_n 0, 1) := by decide +kernel
theorem dFList_add_40 : decode uFList_add.2.1 40 = .ok (.dup, 1) := by decide +kernel
theorem dFList_add_41 : decode uFList_add.2.1 41 = .ok (.getfield 22, 3) := by decide +kernel
theorem dFList_add_44 : decode uFList_add.2.1 44 = .ok (.iconst 1, 1) := by decide +kernel
theorem dFList_add_45 : decode uFList_add.2.1 45 = .ok (.iadd, 1) := by decide +kernel
theorem dFList_add_46 : decode uFList_add.2.1 46 = .ok (.putfield 22, 3) := by decide +kernel
theorem dFList_add_49 : decode uFList_add.2.1 49 = .ok (.return_, 1) := by decide +kernel
theorem oi_Frame_3 : Cond.methodLink "InterleavedLink$Frame" 3 Lib.objectInit ∈ gW := gW_in 518 (by decide +kernel) rfl
theorem ps_Frame_9 : pS "InterleavedLink$Frame" "<init>" 9 12 0 .int := ⟨"InterleavedLink$Frame", T_Frame, 7, cf_Frame, by decide, by decide +kernel, Or.inr ⟨rfl, rfl, rfl, (gW_in 519 (by decide +kernel) rfl)⟩⟩
theorem ps_Frame_15 : pS "InterleavedLink$Frame" "<init>" 15 12 1 .int := ⟨"InterleavedLink$Frame", T_Frame, 7, cf_Frame, by decide, by decide +kernel, Or.inr ⟨rfl, rfl, rfl, (gW_in 521 (by decide +kernel) rfl)⟩⟩
theorem ps_Frame_18 : pS "InterleavedLink$Frame" "<init>" 18 12 2 .int := ⟨"InterleavedLink$Frame", T_Frame, 7, cf_Frame, by decide, by decide +kernel, Or.inr ⟨rfl, rfl, rfl, (gW_in 523 (by decide +kernel) rfl)⟩⟩
theorem ps_Frame_21 : pS "InterleavedLink$Frame" "<init>" 21 12 3 .boolean := ⟨"InterleavedLink$Frame", T_Frame, 7, cf_Frame, by decide, by decide +kernel, Or.inr ⟨rfl, rfl, rfl, (gW_in 525 (by decide +kernel) rfl)⟩⟩
theorem ps_Frame_25 : pS "InterleavedLink$Frame" "<init>" 25 12 4 .int := ⟨"InterleavedLink$Frame", T_Frame, 7, cf_Frame, by decide, by decide +kernel, Or.inr ⟨rfl, rfl, rfl, (gW_in 527 (by decide +kernel) rfl)⟩⟩
theorem ps_Frame_28 : pS "InterleavedLink$Frame" "<init>" 28 12 5 (.array .byte) := ⟨"InterleavedLink$Frame", T_Frame, 7, cf_Frame, by decide, by decide +kernel, Or.inr ⟨rfl, rfl, rfl, (gW_in 529 (by decide +kernel) rfl)⟩⟩
theorem ps_Frame_32 : pS "InterleavedLink$Frame" "<init>" 32 12 6 (.object "InterleavedLink$Block") := ⟨"InterleavedLink$Frame", T_Frame, 7, cf_Frame, by decide, by decide +kernel, Or.inr ⟨rfl, rfl, rfl, (gW_in 531 (by decide +kernel) rfl)⟩⟩
theorem ns_Frame_10 : nS "InterleavedLink$Frame" 10 12 7 := ⟨"InterleavedLink$Frame", T_Frame, cf_Frame, (gW_in 513 (by decide +kernel) rfl), (gW_in 514 (by decide +kernel) rfl), (gW_in 76 (by decide +kernel) rfl)⟩
theorem cs_Frame_36 : cI "InterleavedLink$Frame" 36 uFrame_init 7 := ⟨⟨Or.inl (gW_in 515 (by decide +kernel) rfl), (gW_in 76 (by decide +kernel) rfl), (gW_in 517 (by decide +kernel) rfl), ⟨by decide, by decide⟩, by decide +kernel⟩, (gW_in 516 (by decide +kernel) rfl), rfl, rfl⟩
theorem fs_Frame_39 : fS "InterleavedLink$Frame" 39 11 4 := ⟨"InterleavedLink$Block", T_Block, 6, cf_Block, by decide, Or.inl (gW_in 440 (by decide +kernel) rfl)⟩
theorem fs_Frame_44 : fS "InterleavedLink$Frame" 44 11 5 := ⟨"InterleavedLink$Block", T_Block, 6, cf_Block, by decide, Or.inl (gW_in 443 (by decide +kernel) rfl)⟩
theorem fs_Frame_9 : fS "InterleavedLink$Frame" 9 12 0 := ⟨"InterleavedLink$Frame", T_Frame, 7, cf_Frame, by decide, Or.inl (gW_in 519 (by decide +kernel) rfl)⟩
theorem fs_Frame_15 : fS "InterleavedLink$Frame" 15 12 1 := ⟨"InterleavedLink$Frame", T_Frame, 7, cf_Frame, by decide, Or.inl (gW_in 521 (by decide +kernel) rfl)⟩
theorem fs_Frame_18 : fS "InterleavedLink$Frame" 18 12 2 := ⟨"InterleavedLink$Frame", T_Frame, 7, cf_Frame, by decide, Or.inl (gW_in 523 (by decide +kernel) rfl)⟩
theorem fs_Frame_21 : fS "InterleavedLink$Frame" 21 12 3 := ⟨"InterleavedLink$Frame", T_Frame, 7, cf_Frame, by decide, Or.inl (gW_in 525 (by decide +kernel) rfl)⟩
theorem fs_Frame_25 : fS "InterleavedLink$Frame" 25 12 4 := ⟨"InterleavedLink$Frame", T_Frame, 7, cf_Frame, by decide, Or.inl (gW_in 527 (by decide +kernel) rfl)⟩
theorem oi_Block_1 : Cond.methodLink "InterleavedLink$Block" 1 Lib.objectInit ∈ gW := gW_in 430 (by decide +kernel) rfl
theorem ps_Block_7 {nm : String} : pS "InterleavedLink$Block" nm 7 11 4 .int := ⟨"InterleavedLink$Block", T_Block, 6, cf_Block, by decide, by decide +kernel, Or.inl ⟨rfl, Or.inl (gW_in 439 (by decide +kernel) rfl)⟩⟩
theorem ps_Block_13 {nm : String} : pS "InterleavedLink$Block" nm 13 11 5 .int := ⟨"InterleavedLink$Block", T_Block, 6, cf_Block, by decide, by decide +kernel, Or.inl ⟨rfl, Or.inl (gW_in 442 (by decide +kernel) rfl)⟩⟩
theorem ps_Block_16 : pS "InterleavedLink$Block" "<init>" 16 11 0 (.array .int) := ⟨"InterleavedLink$Block", T_Block, 6, cf_Block, by decide, by decide +kernel, Or.inr ⟨rfl, rfl, rfl, (gW_in 431 (by decide +kernel) rfl)⟩⟩
theorem ps_Block_20 : pS "InterleavedLink$Block" "<init>" 20 11 1 (.array .int) := ⟨"InterleavedLink$Block", T_Block, 6, cf_Block, by decide, by decide +kernel, Or.inr ⟨rfl, rfl, rfl, (gW_in 433 (by decide +kernel) rfl)⟩⟩
theorem ps_Block_23 : pS "InterleavedLink$Block" "<init>" 23 11 2 (.array .int) := ⟨"InterleavedLink$Block", T_Block, 6, cf_Block, by decide, by decide +kernel, Or.inr ⟨rfl, rfl, rfl, (gW_in 435 (by decide +kernel) rfl)⟩⟩
theorem ps_Block_26 : pS "InterleavedLink$Block" "<init>" 26 11 3 (.array .int) := ⟨"InterleavedLink$Block", T_Block, 6, cf_Block, by decide, by decide +kernel, Or.inr ⟨rfl, rfl, rfl, (gW_in 437 (by decide +kernel) rfl)⟩⟩
theorem fs_Block_7 : fS "InterleavedLink$Block" 7 11 4 := ⟨"InterleavedLink$Block", T_Block, 6, cf_Block, by decide, Or.inl (gW_in 439 (by decide +kernel) rfl)⟩
theorem fs_Block_16 : fS "InterleavedLink$Block" 16 11 0 := ⟨"InterleavedLink$Block", T_Block, 6, cf_Block, by decide, Or.inl (gW_in 431 (by decide +kernel) rfl)⟩
theorem fs_Block_20 : fS "InterleavedLink$Block" 20 11 1 := ⟨"InterleavedLink$Block", T_Block, 6, cf_Block, by decide, Or.inl (gW_in 433 (by decide +kernel) rfl)⟩
theorem fs_Block_23 : fS "InterleavedLink$Block" 23 11 2 := ⟨"InterleavedLink$Block", T_Block, 6, cf_Block, by decide, Or.inl (gW_in 435 (by decide +kernel) rfl)⟩
theorem fs_Block_26 : fS "InterleavedLink$Block" 26 11 3 := ⟨"InterleavedLink$Block", T_Block, 6, cf_Block, by decide, Or.inl (gW_in 437 (by decide +kernel) rfl)⟩
theorem fs_Block_13 : fS "InterleavedLink$Block" 13 11 5 := ⟨"InterleavedLink$Block", T_Block, 6, cf_Block, by decide, Or.inl (gW_in 442 (by decide +kernel) rfl)⟩
theorem fs_FList_22 : fS "InterleavedLink$FieldList" 22 3 3 := ⟨"InterleavedLink$FieldList", T_FList, 4, cf_FList, by decide, Or.inl (gW_in 128 (by decide +kernel) rfl)⟩
theorem fs_FList_9 : fS "InterleavedLink$FieldList" 9 3 0 := ⟨"InterleavedLink$FieldList", T_FList, 4, cf_FList, by decide, Or.inl (gW_in 120 (by decide +kernel) rfl)⟩
theorem fs_FList_15 : fS "InterleavedLink$FieldList" 15 3 1 := ⟨"InterleavedLink$FieldList", T_FList, 4, cf_FList, by decide, Or.inl (gW_in 123 (by decide +kernel) rfl)⟩
theorem fs_FList_18 : fS "InterleavedLink$FieldList" 18 3 2 := ⟨"InterleavedLink$FieldList", T_FList, 4, cf_FList, by decide, Or.inl (gW_in 126 (by decide +kernel) rfl)⟩
/-! ===== frames, blocks, lists ===== -/
def frM (M : mM) (f : Nat) (kd s a fl d : Int32) (pl bl : Option Nat) : mM := setR (setR (setI (setI (setI (setI (setI M f 0 kd) f 1 s) f 2 a) f 3 fl) f 4 d) f 5 pl) f 6 bl
set_option maxRecDepth 100000 in
set_option maxHeartbeats 4000000 in
theorem ct_Fr_initNN {X : mX} {l : Launch} {M : mM} {t : Nat} {kd s a fl d : Int32} (hp : (mT M t).1 = 12) (hz : fl = 0 ∨ fl = 1) : Ct X l uFrame_init (rk 1 12) [.ref t, .int kd, .int s, .int a, .int fl, .int d, .null, .null] M (fun r M' => r = none ∧ M' = frM M t kd s a fl d none none) := by
  refine Ct.of (by decide) (Nat.le_of_ble_eq_true rfl) ?_
  show G X l uFrame_init (rk 1 12) 0 0 M 0 [some (.ref t), some (.int kd), some (.int s), some (.int a), some (.int fl), some (.int d), some (.null), some (.null)] [] _
  refine g_aload_n 0 dFrame_init_0 rfl ?_
  refine g_objInit 1 dFrame_init_1 oi_Frame_3 oi_m oi_c ⟨(Nat.le_of_ble_eq_true rfl), (Nat.le_of_ble_eq_true rfl)⟩ ?_
  refine g_aload_n 4 dFrame_init_4 rfl ?_
  refine g_iload_n 5 dFrame_init_5 rfl ?_
  refine g_puti 6 12 0 dFrame_init_6 ps_Frame_9 rfl hp ?_
  refine g_aload_n 9 dFrame_init_9 rfl ?_
  refine g_iload_n 10 dFrame_init_10 rfl ?_
  refine g_puti 11 12 1 dFrame_init_11 ps_Frame_15 rfl hp ?_
  refine g_aload_n 14 dFrame_init_14 rfl ?_
  refine g_iload_n 15 dFrame_init_15 rfl ?_
  refine g_puti 16 12 2 dFrame_init_16 ps_Frame_18 rfl hp ?_
  refine g_aload_n 19 dFrame_init_19 rfl ?_
  refine g_iload 20 dFrame_init_20 rfl ?_
  refine g_putz 22 12 3 dFrame_init_22 ps_Frame_21 rfl hz hp ?_
  refine g_aload_n 25 dFrame_init_25 rfl ?_
  refine g_iload 26 dFrame_init_26 rfl ?_
  refine g_puti 28 12 4 dFrame_init_28 ps_Frame_25 rfl hp ?_
  refine g_aload_n 31 dFrame_init_31 rfl ?_
  refine g_aloadN 32 dFrame_init_32 rfl ?_
  refine g_putN 34 12 5 dFrame_init_34 ps_Frame_28 rfl rfl hp ?_
  refine g_aload_n 37 dFrame_init_37 rfl ?_
  refine g_aloadN 38 dFrame_init_38 rfl ?_
  refine g_putN 40 12 6 dFrame_init_40 ps_Frame_32 rfl rfl hp ?_
  exact g_vret 43 dFrame_init_43 rfl ⟨rfl, rfl⟩

set_option maxRecDepth 100000 in
set_option maxHeartbeats 4000000 in
theorem ct_Fr_initPN {X : mX} {l : Launch} {M : mM} {t p : Nat} {kd s a fl d : Int32} (hp : (mT M t).1 = 12) (hz : fl = 0 ∨ fl = 1) : Ct X l uFrame_init (rk 1 12) [.ref t, .int kd, .int s, .int a, .int fl, .int d, .ref p, .null] M (fun r M' => r = none ∧ M' = frM M t kd s a fl d (some p) none) := by
  refine Ct.of (by decide) (Nat.le_of_ble_eq_true rfl) ?_
  show G X l uFrame_init (rk 1 12) 0 0 M 0 [some (.ref t), some (.int kd), some (.int s), some (.int a), some (.int fl), some (.int d), some (.ref p), some (.null)] [] _
  refine g_aload_n 0 dFrame_init_0 rfl ?_
  refine g_objInit 1 dFrame_init_1 oi_Frame_3 oi_m oi_c ⟨(Nat.le_of_ble_eq_true rfl), (Nat.le_of_ble_eq_true rfl)⟩ ?_
  refine g_aload_n 4 dFrame_init_4 rfl ?_
  refine g_iload_n 5 dFrame_init_5 rfl ?_
  refine g_puti 6 12 0 dFrame_init_6 ps_Frame_9 rfl hp ?_
  refine g_aload_n 9 dFrame_init_9 rfl ?_
  refine g_iload_n 10 dFrame_init_10 rfl ?_
  refine g_puti 11 12 1 dFrame_init_11 ps_Frame_15 rfl hp ?_
  refine g_aload_n 14 dFrame_init_14 rfl ?_
  refine g_iload_n 15 dFrame_init_15 rfl ?_
  refine g_puti 16 12 2 dFrame_init_16 ps_Frame_18 rfl hp ?_
  refine g_aload_n 19 dFrame_init_19 rfl ?_
  refine g_iload 20 dFrame_init_20 rfl ?_
  refine g_putz 22 12 3 dFrame_init_22 ps_Frame_21 rfl hz hp ?_
  refine g_aload_n 25 dFrame_init_25 rfl ?_
  refine g_iload 26 dFrame_init_26 rfl ?_
  refine g_puti 28 12 4 dFrame_init_28 ps_Frame_25 rfl hp ?_
  refine g_aload_n 31 dFrame_init_31 rfl ?_
  refine g_aload 32 dFrame_init_32 rfl ?_
  refine g_putr 34 12 5 dFrame_init_34 ps_Frame_28 rfl rfl hp ?_
  refine g_aload_n 37 dFrame_init_37 rfl ?_
  refine g_aloadN 38 dFrame_init_38 rfl ?_
  refine g_putN 40 12 6 dFrame_init_40 ps_Frame_32 rfl rfl hp ?_
  exact g_vret 43 dFrame_init_43 rfl ⟨rfl, rfl⟩

set_option maxRecDepth 100000 in
set_option maxHeartbeats 4000000 in
theorem ct_Fr_initNB {X : mX} {l : Launch} {M : mM} {t b : Nat} {kd s a fl d : Int32} (hp : (mT M t).1 = 12) (hz : fl = 0 ∨ fl = 1) : Ct X l uFrame_init (rk 1 12) [.ref t, .int kd, .int s, .int a, .int fl, .int d, .null, .ref b] M (fun r M' => r = none ∧ M' = frM M t kd s a fl d none (some b)) := by
  refine Ct.of (by decide) (Nat.le_of_ble_eq_true rfl) ?_
  show G X l uFrame_init (rk 1 12) 0 0 M 0 [some (.ref t), some (.int kd), some (.int s), some (.int a), some (.int fl), some (.int d), some (.null), some (.ref b)] [] _
  refine g_aload_n 0 dFrame_init_0 rfl ?_
  refine g_objInit 1 dFrame_init_1 oi_Frame_3 oi_m oi_c ⟨(Nat.le_of_ble_eq_true rfl), (Nat.le_of_ble_eq_true rfl)⟩ ?_
  refine g_aload_n 4 dFrame_init_4 rfl ?_
  refine g_iload_n 5 dFrame_init_5 rfl ?_
  refine g_puti 6 12 0 dFrame_init_6 ps_Frame_9 rfl hp ?_
  refine g_aload_n 9 dFrame_init_9 rfl ?_
  refine g_iload_n 10 dFrame_init_10 rfl ?_
  refine g_puti 11 12 1 dFrame_init_11 ps_Frame_15 rfl hp ?_
  refine g_aload_n 14 dFrame_init_14 rfl ?_
  refine g_iload_n 15 dFrame_init_15 rfl ?_
  refine g_puti 16 12 2 dFrame_init_16 ps_Frame_18 rfl hp ?_
  refine g_aload_n 19 dFrame_init_19 rfl ?_
  refine g_iload 20 dFrame_init_20 rfl ?_
  refine g_putz 22 12 3 dFrame_init_22 ps_Frame_21 rfl hz hp ?_
  refine g_aload_n 25 dFrame_init_25 rfl ?_
  refine g_iload 26 dFrame_init_26 rfl ?_
  refine g_puti 28 12 4 dFrame_init_28 ps_Frame_25 rfl hp ?_
  refine g_aload_n 31 dFrame_init_31 rfl ?_
  refine g_aloadN 32 dFrame_init_32 rfl ?_
  refine g_putN 34 12 5 dFrame_init_34 ps_Frame_28 rfl rfl hp ?_
  refine g_aload_n 37 dFrame_init_37 rfl ?_
  refine g_aload 38 dFrame_init_38 rfl ?_
  refine g_putr 40 12 6 dFrame_init_40 ps_Frame_32 rfl rfl hp ?_
  exact g_vret 43 dFrame_init_43 rfl ⟨rfl, rfl⟩

set_option maxRecDepth 100000 in
set_option maxHeartbeats 4000000 in
theorem ct_ofReset {X : mX} {l : Launch} {M : mM} {s c : Int32} : Ct X l uFrame_ofReset (rn 2 39 1 7) [.int s, .int c] M (fun r M' => r = some (.ref (mN M)) ∧ M' = frM (newM M 12 7) (mN M) 3 s c 0 0 none none) := by
  refine Ct.of (by decide) (Nat.le_of_ble_eq_true rfl) ?_
  show G X l uFrame_ofReset (rn 2 39 1 7) 1 7 M 0 [some (.int s), some (.int c)] [] _
  refine g_new 0 12 7 dFrame_ofReset_0 ns_Frame_10 (Nat.le_of_ble_eq_true rfl) (Nat.le_of_ble_eq_true rfl) ?_
  refine g_dup 3 dFrame_ofReset_3 rfl ?_
  refine g_iconst 4 3 dFrame_ofReset_4 rfl ?_
  refine g_iload_n 5 dFrame_ofReset_5 rfl ?_
  refine g_iload_n 6 dFrame_ofReset_6 rfl ?_
  refine g_iconst 7 0 dFrame_ofReset_7 rfl ?_
  refine g_iconst 8 0 dFrame_ofReset_8 rfl ?_
  refine g_null 9 dFrame_ofReset_9 ?_
  refine g_null 10 dFrame_ofReset_10 ?_
  refine g_callI 11 [_, _, _, _, _, _, _] dFrame_ofReset_11 cs_Frame_36 rfl rfl ⟨(Nat.le_of_ble_eq_true rfl), (Nat.le_of_ble_eq_true rfl)⟩ (Nat.le_of_ble_eq_true rfl) (ct_Fr_initNN nT (Or.inl rfl)) (Nat.le_of_ble_eq_true rfl) (Nat.le_of_ble_eq_true rfl) ?_
  rintro _ _ ⟨rfl, rfl⟩
  exact g_aret 14 dFrame_ofReset_14 rfl (Or.inl ⟨_, rfl⟩) ⟨rfl, rfl⟩

set_option maxRecDepth 100000 in
set_option maxHeartbeats 4000000 in
theorem ct_ofSetting {X : mX} {l : Launch} {M : mM} {s v : Int32} : Ct X l uFrame_ofSetting (rn 2 39 1 7) [.int s, .int v] M (fun r M' => r = some (.ref (mN M)) ∧ M' = frM (newM M 12 7) (mN M) 4 0 v 0 s none none) := by
  refine Ct.of (by decide) (Nat.le_of_ble_eq_true rfl) ?_
  show G X l uFrame_ofSetting (rn 2 39 1 7) 1 7 M 0 [some (.int s), some (.int v)] [] _
  refine g_new 0 12 7 dFrame_ofSetting_0 ns_Frame_10 (Nat.le_of_ble_eq_true rfl) (Nat.le_of_ble_eq_true rfl) ?_
  refine g_dup 3 dFrame_ofSetting_3 rfl ?_
  refine g_iconst 4 4 dFrame_ofSetting_4 rfl ?_
  refine g_iconst 5 0 dFrame_ofSetting_5 rfl ?_
  refine g_iload_n 6 dFrame_ofSetting_6 rfl ?_
  refine g_iconst 7 0 dFrame_ofSetting_7 rfl ?_
  refine g_iload_n 8 dFrame_ofSetting_8 rfl ?_
  refine g_null 9 dFrame_ofSetting_9 ?_
  refine g_null 10 dFrame_ofSetting_10 ?_
  refine g_callI 11 [_, _, _, _, _, _, _] dFrame_ofSetting_11 cs_Frame_36 rfl rfl ⟨(Nat.le_of_ble_eq_true rfl), (Nat.le_of_ble_eq_true rfl)⟩ (Nat.le_of_ble_eq_true rfl) (ct_Fr_initNN nT (Or.inl rfl)) (Nat.le_of_ble_eq_true rfl) (Nat.le_of_ble_eq_true rfl) ?_
  rintro _ _ ⟨rfl, rfl⟩
  exact g_aret 14 dFrame_ofSetting_14 rfl (Or.inl ⟨_, rfl⟩) ⟨rfl, rfl⟩

set_option maxRecDepth 100000 in
set_option maxHeartbeats 4000000 in
theorem ct_ofAck {X : mX} {l : Launch} {M : mM}  : Ct X l uFrame_ofAck (rn 2 39 1 7) [] M (fun r M' => r = some (.ref (mN M)) ∧ M' = frM (newM M 12 7) (mN M) 4 0 0 1 0 none none) := by
  refine Ct.of (by decide) (Nat.le_of_ble_eq_true rfl) ?_
  show G X l uFrame_ofAck (rn 2 39 1 7) 1 7 M 0 [] [] _
  refine g_new 0 12 7 dFrame_ofAck_0 ns_Frame_10 (Nat.le_of_ble_eq_true rfl) (Nat.le_of_ble_eq_true rfl) ?_
  refine g_dup 3 dFrame_ofAck_3 rfl ?_
  refine g_iconst 4 4 dFrame_ofAck_4 rfl ?_
  refine g_iconst 5 0 dFrame_ofAck_5 rfl ?_
  refine g_iconst 6 0 dFrame_ofAck_6 rfl ?_
  refine g_iconst 7 1 dFrame_ofAck_7 rfl ?_
  refine g_iconst 8 0 dFrame_ofAck_8 rfl ?_
  refine g_null 9 dFrame_ofAck_9 ?_
  refine g_null 10 dFrame_ofAck_10 ?_
  refine g_callI 11 [_, _, _, _, _, _, _] dFrame_ofAck_11 cs_Frame_36 rfl rfl ⟨(Nat.le_of_ble_eq_true rfl), (Nat.le_of_ble_eq_true rfl)⟩ (Nat.le_of_ble_eq_true rfl) (ct_Fr_initNN nT (Or.inr rfl)) (Nat.le_of_ble_eq_true rfl) (Nat.le_of_ble_eq_true rfl) ?_
  rintro _ _ ⟨rfl, rfl⟩
  exact g_aret 14 dFrame_ofAck_14 rfl (Or.inl ⟨_, rfl⟩) ⟨rfl, rfl⟩

set_option maxRecDepth 100000 in
set_option maxHeartbeats 4000000 in
theorem ct_ofFarewell {X : mX} {l : Launch} {M : mM} {c : Int32} : Ct X l uFrame_ofFarewell (rn 2 39 1 7) [.int c] M (fun r M' => r = some (.ref (mN M)) ∧ M' = frM (newM M 12 7) (mN M) 7 0 c 0 0 none none) := by
  refine Ct.of (by decide) (Nat.le_of_ble_eq_true rfl) ?_
  show G X l uFrame_ofFarewell (rn 2 39 1 7) 1 7 M 0 [some (.int c)] [] _
  refine g_new 0 12 7 dFrame_ofFarewell_0 ns_Frame_10 (Nat.le_of_ble_eq_true rfl) (Nat.le_of_ble_eq_true rfl) ?_
  refine g_dup 3 dFrame_ofFarewell_3 rfl ?_
  refine g_bipush 4 7 dFrame_ofFarewell_4 rfl ?_
  refine g_iconst 6 0 dFrame_ofFarewell_6 rfl ?_
  refine g_iload_n 7 dFrame_ofFarewell_7 rfl ?_
  refine g_iconst 8 0 dFrame_ofFarewell_8 rfl ?_
  refine g_iconst 9 0 dFrame_ofFarewell_9 rfl ?_
  refine g_null 10 dFrame_ofFarewell_10 ?_
  refine g_null 11 dFrame_ofFarewell_11 ?_
  refine g_callI 12 [_, _, _, _, _, _, _] dFrame_ofFarewell_12 cs_Frame_36 rfl rfl ⟨(Nat.le_of_ble_eq_true rfl), (Nat.le_of_ble_eq_true rfl)⟩ (Nat.le_of_ble_eq_true rfl) (ct_Fr_initNN nT (Or.inl rfl)) (Nat.le_of_ble_eq_true rfl) (Nat.le_of_ble_eq_true rfl) ?_
  rintro _ _ ⟨rfl, rfl⟩
  exact g_aret 15 dFrame_ofFarewell_15 rfl (Or.inl ⟨_, rfl⟩) ⟨rfl, rfl⟩

set_option maxRecDepth 100000 in
set_option maxHeartbeats 4000000 in
theorem ct_ofWindow {X : mX} {l : Launch} {M : mM} {s n : Int32} : Ct X l uFrame_ofWindow (rn 2 39 1 7) [.int s, .int n] M (fun r M' => r = some (.ref (mN M)) ∧ M' = frM (newM M 12 7) (mN M) 8 s n 0 0 none none) := by
  refine Ct.of (by decide) (Nat.le_of_ble_eq_true rfl) ?_
  show G X l uFrame_ofWindow (rn 2 39 1 7) 1 7 M 0 [some (.int s), some (.int n)] [] _
  refine g_new 0 12 7 dFrame_ofWindow_0 ns_Frame_10 (Nat.le_of_ble_eq_true rfl) (Nat.le_of_ble_eq_true rfl) ?_
  refine g_dup 3 dFrame_ofWindow_3 rfl ?_
  refine g_bipush 4 8 dFrame_ofWindow_4 rfl ?_
  refine g_iload_n 6 dFrame_ofWindow_6 rfl ?_
  refine g_iload_n 7 dFrame_ofWindow_7 rfl ?_
  refine g_iconst 8 0 dFrame_ofWindow_8 rfl ?_
  refine g_iconst 9 0 dFrame_ofWindow_9 rfl ?_
  refine g_null 10 dFrame_ofWindow_10 ?_
  refine g_null 11 dFrame_ofWindow_11 ?_
  refine g_callI 12 [_, _, _, _, _, _, _] dFrame_ofWindow_12 cs_Frame_36 rfl rfl ⟨(Nat.le_of_ble_eq_true rfl), (Nat.le_of_ble_eq_true rfl)⟩ (Nat.le_of_ble_eq_true rfl) (ct_Fr_initNN nT (Or.inl rfl)) (Nat.le_of_ble_eq_true rfl) (Nat.le_of_ble_eq_true rfl) ?_
  rintro _ _ ⟨rfl, rfl⟩
  exact g_aret 15 dFrame_ofWindow_15 rfl (Or.inl ⟨_, rfl⟩) ⟨rfl, rfl⟩

set_option maxRecDepth 100000 in
set_option maxHeartbeats 4000000 in
theorem ct_ofData {X : mX} {l : Launch} {M : mM} {s z : Int32} {p n : Nat} (hp : mT M p = (101, n)) (hz : z = 0 ∨ z = 1) : Ct X l uFrame_ofData (rn 2 39 1 7) [.int s, .ref p, .int z] M (fun r M' => r = some (.ref (mN M)) ∧ M' = frM (newM M 12 7) (mN M) 0 s (nI n) z 0 (some p) none) := by
  refine Ct.of (by decide) (Nat.le_of_ble_eq_true rfl) ?_
  show G X l uFrame_ofData (rn 2 39 1 7) 1 7 M 0 [some (.int s), some (.ref p), some (.int z)] [] _
  refine G.wf fun hw => ?_
  have hlt := (hw.lt (a := p) (by rw [hp]; show 101 ≠ 999; decide)).2
  refine g_new 0 12 7 dFrame_ofData_0 ns_Frame_10 (Nat.le_of_ble_eq_true rfl) (Nat.le_of_ble_eq_true rfl) ?_
  refine g_dup 3 dFrame_ofData_3 rfl ?_
  refine g_iconst 4 0 dFrame_ofData_4 rfl ?_
  refine g_iload_n 5 dFrame_ofData_5 rfl ?_
  refine g_aload_n 6 dFrame_ofData_6 rfl ?_
  refine g_alen 7 1 dFrame_ofData_7 rfl (oTT hlt hp) ?_
  refine g_iload_n 8 dFrame_ofData_8 rfl ?_
  refine g_iconst 9 0 dFrame_ofData_9 rfl ?_
  refine g_aload_n 10 dFrame_ofData_10 rfl ?_
  refine g_null 11 dFrame_ofData_11 ?_
  refine g_callI 12 [_, _, _, _, _, _, _] dFrame_ofData_12 cs_Frame_36 rfl rfl ⟨(Nat.le_of_ble_eq_true rfl), (Nat.le_of_ble_eq_true rfl)⟩ (Nat.le_of_ble_eq_true rfl) (ct_Fr_initPN nT hz) (Nat.le_of_ble_eq_true rfl) (Nat.le_of_ble_eq_true rfl) ?_
  rintro _ _ ⟨rfl, rfl⟩
  exact g_aret 15 dFrame_ofData_15 rfl (Or.inl ⟨_, rfl⟩) ⟨rfl, rfl⟩

set_option maxRecDepth 100000 in
set_option maxHeartbeats 4000000 in
theorem ct_ofHeaders {X : mX} {l : Launch} {M : mM} {s z : Int32} {b : Nat} (hp : (mT M b).1 = 11) (hz : z = 0 ∨ z = 1) : Ct X l uFrame_ofHeaders (rn 2 39 1 7) [.int s, .ref b, .int z] M (fun r M' => r = some (.ref (mN M)) ∧ M' = frM (newM M 12 7) (mN M) 1 s (mI M b 4) z (mI M b 5) none (some b)) := by
  refine Ct.of (by decide) (Nat.le_of_ble_eq_true rfl) ?_
  show G X l uFrame_ofHeaders (rn 2 39 1 7) 1 7 M 0 [some (.int s), some (.ref b), some (.int z)] [] _
  refine G.wf fun hw => ?_
  have hlt := (hw.lt (a := b) (by rw [hp]; decide)).2
  refine g_new 0 12 7 dFrame_ofHeaders_0 ns_Frame_10 (Nat.le_of_ble_eq_true rfl) (Nat.le_of_ble_eq_true rfl) ?_
  refine g_dup 3 dFrame_ofHeaders_3 rfl ?_
  refine g_iconst 4 1 dFrame_ofHeaders_4 rfl ?_
  refine g_iload_n 5 dFrame_ofHeaders_5 rfl ?_
  refine g_aload_n 6 dFrame_ofHeaders_6 rfl ?_
  refine g_geti 7 11 4 dFrame_ofHeaders_7 fs_Frame_39 rfl (oT hlt hp) ?_
  refine g_top (mI M b 4) (mI_new_ne (Nat.ne_of_lt hlt)) ?_
  refine g_iload_n 10 dFrame_ofHeaders_10 rfl ?_
  refine g_aload_n 11 dFrame_ofHeaders_11 rfl ?_
  refine g_geti 12 11 5 dFrame_ofHeaders_12 fs_Frame_44 rfl (oT hlt hp) ?_
  refine g_top (mI M b 5) (mI_new_ne (Nat.ne_of_lt hlt)) ?_
  refine g_null 15 dFrame_ofHeaders_15 ?_
  refine g_aload_n 16 dFrame_ofHeaders_16 rfl ?_
  refine g_callI 17 [_, _, _, _, _, _, _] dFrame_ofHeaders_17 cs_Frame_36 rfl rfl ⟨(Nat.le_of_ble_eq_true rfl), (Nat.le_of_ble_eq_true rfl)⟩ (Nat.le_of_ble_eq_true rfl) (ct_Fr_initNB nT hz) (Nat.le_of_ble_eq_true rfl) (Nat.le_of_ble_eq_true rfl) ?_
  rintro _ _ ⟨rfl, rfl⟩
  exact g_aret 20 dFrame_ofHeaders_20 rfl (Or.inl ⟨_, rfl⟩) ⟨rfl, rfl⟩

def ptC (M : mM) (f : Nat) (w : Int32) : Int32 := if w = 0 then mI M f 0 else if w = 1 then mI M f 1 else if w = 2 then mI M f 2 else if w = 3 then (if mI M f 3 = 0 then 0 else 1) else if w = 4 then mI M f 4 else -1
set_option maxRecDepth 100000 in
set_option maxHeartbeats 4000000 in
theorem ct_Fr_part {X : mX} {l : Launch} {M : mM} {t : Nat} {w : Int32} (hp : (mT M t).1 = 12) : Ct X l uFrame_part (rk 0 0) [.ref t, .int w] M (fun r M' => r = some (.int (ptC M t w)) ∧ M' = M) := by
  refine Ct.of (by decide) (Nat.le_of_ble_eq_true rfl) ?_
  show G X l uFrame_part (rk 0 0) 0 0 M 0 [some (.ref t), some (.int w)] [] _
  refine g_iload_n 0 dFrame_part_0 rfl ?_
  by_cases s1_0 : w = 0
  · refine g_top 0 s1_0 ?_
    refine g_tableIn 1 36 dFrame_part_1 (by decide) (by decide) rfl rfl ?_
    refine g_aload_n 36 dFrame_part_36 rfl ?_
    refine g_geti 37 12 0 dFrame_part_37 fs_Frame_9 rfl hp ?_
    exact g_iret 40 dFrame_part_40 rfl ⟨by simp_all [ptC], rfl⟩
  by_cases s1_1 : w = 1
  · refine g_top 1 s1_1 ?_
    refine g_tableIn 1 41 dFrame_part_1 (by decide) (by decide) rfl rfl ?_
    refine g_aload_n 41 dFrame_part_41 rfl ?_
    refine g_geti 42 12 1 dFrame_part_42 fs_Frame_15 rfl hp ?_
    exact g_iret 45 dFrame_part_45 rfl ⟨by simp_all [ptC], rfl⟩
  by_cases s1_2 : w = 2
  · refine g_top 2 s1_2 ?_
    refine g_tableIn 1 46 dFrame_part_1 (by decide) (by decide) rfl rfl ?_
    refine g_aload_n 46 dFrame_part_46 rfl ?_
    refine g_geti 47 12 2 dFrame_part_47 fs_Frame_18 rfl hp ?_
    exact g_iret 50 dFrame_part_50 rfl ⟨by simp_all [ptC], rfl⟩
  by_cases s1_3 : w = 3
  · refine g_top 3 s1_3 ?_
    refine g_tableIn 1 51 dFrame_part_1 (by decide) (by decide) rfl rfl ?_
    refine g_aload_n 51 dFrame_part_51 rfl ?_
    refine g_geti 52 12 3 dFrame_part_52 fs_Frame_21 rfl hp ?_
    refine g_if_eq 55 62 dFrame_part_55 rfl (fun h55 => ?_) (fun h55 => ?_)
    · refine g_iconst 62 0 dFrame_part_62 rfl ?_
      exact g_iret 63 dFrame_part_63 rfl ⟨by simp_all [ptC], rfl⟩
    · refine g_iconst 58 1 dFrame_part_58 rfl ?_
      refine g_goto 59 63 dFrame_part_59 rfl ?_
      exact g_iret 63 dFrame_part_63 rfl ⟨by simp_all [ptC], rfl⟩
  by_cases s1_4 : w = 4
  · refine g_top 4 s1_4 ?_
    refine g_tableIn 1 64 dFrame_part_1 (by decide) (by decide) rfl rfl ?_
    refine g_aload_n 64 dFrame_part_64 rfl ?_
    refine g_geti 65 12 4 dFrame_part_65 fs_Frame_25 rfl hp ?_
    exact g_iret 68 dFrame_part_68 rfl ⟨by simp_all [ptC], rfl⟩
  refine g_tableOut 1 69 dFrame_part_1 (by have q0 := lv_neT s1_0 (a := 0) rfl; have q1 := lv_neT s1_1 (a := 1) rfl; have q2 := lv_neT s1_2 (a := 2) rfl; have q3 := lv_neT s1_3 (a := 3) rfl; have q4 := lv_neT s1_4 (a := 4) rfl; omega) rfl ?_
  refine g_iconst 69 (-1) dFrame_part_69 rfl ?_
  exact g_iret 70 dFrame_part_70 rfl ⟨by simp_all [ptC], rfl⟩

def mkBlk (M : mM) (t n : Nat) : mM := setR (newM (setR (newM (setR (newM (setR (newM (setI (setI M t 4 0) t 5 0) 100 n) t 0 (some (mN M))) 100 n) t 1 (some (mN M + 1))) 100 n) t 2 (some (mN M + 2))) 100 n) t 3 (some (mN M + 3))
set_option maxRecDepth 100000 in
set_option maxHeartbeats 4000000 in
theorem ct_Blk_init {X : mX} {l : Launch} {M : mM} {t n : Nat} (hp : (mT M t).1 = 11) (hn : n ≤ 8) : Ct X l uBlock_init (rn 1 12 4 32) [.ref t, .int (nI n)] M (fun r M' => r = none ∧ M' = mkBlk M t n) := by
  refine Ct.of (by decide) (Nat.le_of_ble_eq_true rfl) ?_
  show G X l uBlock_init (rn 1 12 4 32) 4 32 M 0 [some (.ref t), some (.int (nI n))] [] _
  refine G.wf fun hw => ?_
  have hlt := (hw.lt (a := t) (by rw [hp]; decide)).2
  refine g_aload_n 0 dBlock_init_0 rfl ?_
  refine g_objInit 1 dBlock_init_1 oi_Block_1 oi_m oi_c ⟨(Nat.le_of_ble_eq_true rfl), (Nat.le_of_ble_eq_true rfl)⟩ ?_
  refine g_aload_n 4 dBlock_init_4 rfl ?_
  refine g_iconst 5 0 dBlock_init_5 rfl ?_
  refine g_puti 6 11 4 dBlock_init_6 ps_Block_7 rfl hp ?_
  refine g_aload_n 9 dBlock_init_9 rfl ?_
  refine g_iconst 10 0 dBlock_init_10 rfl ?_
  refine g_puti 11 11 5 dBlock_init_11 ps_Block_13 rfl hp ?_
  refine g_aload_n 14 dBlock_init_14 rfl ?_
  refine g_iload_n 15 dBlock_init_15 rfl ?_
  refine g_newa 16 0 8 dBlock_init_16 aw_int rfl rfl (fun _ => rfl) (fun _ _ h => h) (by decide) (nI_pos (by omega)) (by rw [nI_clamp (by omega)]; exact hn) (by decide) (Nat.le_of_ble_eq_true rfl) (Nat.le_of_ble_eq_true rfl) ?_
  refine g_putr 18 11 0 dBlock_init_18 ps_Block_16 rfl rfl (oT (Nat.lt_add_right 0 hlt) hp) ?_
  refine g_aload_n 21 dBlock_init_21 rfl ?_
  refine g_iload_n 22 dBlock_init_22 rfl ?_
  refine g_newa 23 0 8 dBlock_init_23 aw_int rfl rfl (fun _ => rfl) (fun _ _ h => h) (by decide) (nI_pos (by omega)) (by rw [nI_clamp (by omega)]; exact hn) (by decide) (Nat.le_of_ble_eq_true rfl) (Nat.le_of_ble_eq_true rfl) ?_
  refine g_putr 25 11 1 dBlock_init_25 ps_Block_20 rfl rfl (oT (Nat.lt_add_right 1 hlt) (oT (Nat.lt_add_right 0 hlt) hp)) ?_
  refine g_aload_n 28 dBlock_init_28 rfl ?_
  refine g_iload_n 29 dBlock_init_29 rfl ?_
  refine g_newa 30 0 8 dBlock_init_30 aw_int rfl rfl (fun _ => rfl) (fun _ _ h => h) (by decide) (nI_pos (by omega)) (by rw [nI_clamp (by omega)]; exact hn) (by decide) (Nat.le_of_ble_eq_true rfl) (Nat.le_of_ble_eq_true rfl) ?_
  refine g_putr 32 11 2 dBlock_init_32 ps_Block_23 rfl rfl (oT (Nat.lt_add_right 2 hlt) (oT (Nat.lt_add_right 1 hlt) (oT (Nat.lt_add_right 0 hlt) hp))) ?_
  refine g_aload_n 35 dBlock_init_35 rfl ?_
  refine g_iload_n 36 dBlock_init_36 rfl ?_
  refine g_newa 37 0 8 dBlock_init_37 aw_int rfl rfl (fun _ => rfl) (fun _ _ h => h) (by decide) (nI_pos (by omega)) (by rw [nI_clamp (by omega)]; exact hn) (by decide) (Nat.le_of_ble_eq_true rfl) (Nat.le_of_ble_eq_true rfl) ?_
  refine g_putr 39 11 3 dBlock_init_39 ps_Block_26 rfl rfl (oT (Nat.lt_add_right 3 hlt) (oT (Nat.lt_add_right 2 hlt) (oT (Nat.lt_add_right 1 hlt) (oT (Nat.lt_add_right 0 hlt) hp)))) ?_
  exact g_vret 42 dBlock_init_42 rfl ⟨rfl, by rw [nI_clamp (by omega)]; rfl⟩

set_option maxRecDepth 100000 in
set_option maxHeartbeats 4000000 in
theorem ct_Blk_add {X : mX} {l : Launch} {M : mM} {t n c a0 a1 a2 a3 : Nat} {kd nu na va : Int32} (hp : (mT M t).1 = 11) (r0 : mR M t 0 = some a0) (r1 : mR M t 1 = some a1) (r2 : mR M t 2 = some a2) (r3 : mR M t 3 = some a3) (t0 : mT M a0 = (100, n)) (t1 : mT M a1 = (100, n)) (t2 : mT M a2 = (100, n)) (t3 : mT M a3 = (100, n)) (hc : mI M t 4 = nI c) (hcn : c < n) (hn : n ≤ 8) : Ct X l uBlock_add (rk 0 0) [.ref t, .int kd, .int nu, .int na, .int va] M (fun r M' => r = none ∧ M' = setI (setI (setI (setI (setI (setI M a0 c kd) a1 c nu) a2 c na) a3 c va) t 4 (nI (c + 1))) t 5 (mI M t 5 + nu)) := by
  refine Ct.of (by decide) (Nat.le_of_ble_eq_true rfl) ?_
  show G X l uBlock_add (rk 0 0) 0 0 M 0 [some (.ref t), some (.int kd), some (.int nu), some (.int na), some (.int va)] [] _
  have n0 : ¬ t = a0 := fun q => by rw [q, t0] at hp; cases hp
  have n1 : ¬ t = a1 := fun q => by rw [q, t1] at hp; cases hp
  have n2 : ¬ t = a2 := fun q => by rw [q, t2] at hp; cases hp
  have n3 : ¬ t = a3 := fun q => by rw [q, t3] at hp; cases hp
  refine g_aload_n 0 dBlock_add_0 rfl ?_
  refine g_geti 1 11 4 dBlock_add_1 fs_Block_7 rfl hp ?_
  refine g_top (nI (c)) (by simp [mI_setI, up2, n0, n1, n2, n3, hc]) ?_
  refine g_aload_n 4 dBlock_add_4 rfl ?_
  refine g_getr 5 11 0 dBlock_add_5 fs_Block_16 rfl hp r0 ?_
  refine g_alen 8 0 dBlock_add_8 rfl t0 ?_
  refine g_icmp_geN 9 73 dBlock_add_9 rfl (by omega) (by omega) (fun h9 => ?_) (fun h9 => ?_)
  · exact absurd h9 (by omega)
  · refine g_aload_n 12 dBlock_add_12 rfl ?_
    refine g_getr 13 11 0 dBlock_add_13 fs_Block_16 rfl hp r0 ?_
    refine g_aload_n 16 dBlock_add_16 rfl ?_
    refine g_geti 17 11 4 dBlock_add_17 fs_Block_7 rfl hp ?_
    refine g_top (nI (c)) (by simp [mI_setI, up2, n0, n1, n2, n3, hc]) ?_
    refine g_iload_n 20 dBlock_add_20 rfl ?_
    refine g_iastN 21 dBlock_add_21 t0 (by omega) (by omega) ?_
    refine g_aload_n 22 dBlock_add_22 rfl ?_
    refine g_getr 23 11 1 dBlock_add_23 fs_Block_20 rfl hp r1 ?_
    refine g_aload_n 26 dBlock_add_26 rfl ?_
    refine g_geti 27 11 4 dBlock_add_27 fs_Block_7 rfl hp ?_
    refine g_top (nI (c)) (by simp [mI_setI, up2, n0, n1, n2, n3, hc]) ?_
    refine g_iload_n 30 dBlock_add_30 rfl ?_
    refine g_iastN 31 dBlock_add_31 t1 (by omega) (by omega) ?_
    refine g_aload_n 32 dBlock_add_32 rfl ?_
    refine g_getr 33 11 2 dBlock_add_33 fs_Block_23 rfl hp r2 ?_
    refine g_aload_n 36 dBlock_add_36 rfl ?_
    refine g_geti 37 11 4 dBlock_add_37 fs_Block_7 rfl hp ?_
    refine g_top (nI (c)) (by simp [mI_setI, up2, n0, n1, n2, n3, hc]) ?_
    refine g_iload_n 40 dBlock_add_40 rfl ?_
    refine g_iastN 41 dBlock_add_41 t2 (by omega) (by omega) ?_
    refine g_aload_n 42 dBlock_add_42 rfl ?_
    refine g_getr 43 11 3 dBlock_add_43 fs_Block_26 rfl hp r3 ?_
    refine g_aload_n 46 dBlock_add_46 rfl ?_
    refine g_geti 47 11 4 dBlock_add_47 fs_Block_7 rfl hp ?_
    refine g_top (nI (c)) (by simp [mI_setI, up2, n0, n1, n2, n3, hc]) ?_
    refine g_iload 50 dBlock_add_50 rfl ?_
    refine g_iastN 52 dBlock_add_52 t3 (by omega) (by omega) ?_
    refine g_aload_n 53 dBlock_add_53 rfl ?_
    refine g_dup 54 dBlock_add_54 rfl ?_
    refine g_geti 55 11 4 dBlock_add_55 fs_Block_7 rfl hp ?_
    refine g_top (nI (c)) (by simp [mI_setI, up2, n0, n1, n2, n3, hc]) ?_
    refine g_iconst 58 (nI 1) dBlock_add_58 rfl ?_
    refine g_iaddN 59 dBlock_add_59 ?_
    refine g_puti 60 11 4 dBlock_add_60 ps_Block_7 rfl hp ?_
    refine g_aload_n 63 dBlock_add_63 rfl ?_
    refine g_dup 64 dBlock_add_64 rfl ?_
    refine g_geti 65 11 5 dBlock_add_65 fs_Block_13 rfl hp ?_
    refine g_top (mI M t 5) (by simp [mI_setI, up2, n0, n1, n2, n3]) ?_
    refine g_iload_n 68 dBlock_add_68 rfl ?_
    refine g_iadd 69 dBlock_add_69 ?_
    refine g_puti 70 11 5 dBlock_add_70 ps_Block_13 rfl hp ?_
    exact g_vret 73 dBlock_add_73 rfl ⟨rfl, rfl⟩

set_option maxRecDepth 100000 in
set_option maxHeartbeats 4000000 in
theorem ct_FL_add {X : mX} {l : Launch} {M : mM} {t c a0 a1 a2 : Nat} {na va z : Int32} (hp : (mT M t).1 = 3) (r0 : mR M t 0 = some a0) (r1 : mR M t 1 = some a1) (r2 : mR M t 2 = some a2) (t0 : mT M a0 = (100, 6)) (t1 : mT M a1 = (100, 6)) (t2 : mT M a2 = (102, 6)) (hc : mI M t 3 = nI c) (hcn : c < 6) (hz : z = 0 ∨ z = 1) : Ct X l uFList_add (rk 0 0) [.ref t, .int na, .int va, .int z] M (fun r M' => r = none ∧ M' = setI (setI (setI (setI M a0 c na) a1 c va) a2 c z) t 3 (nI (c + 1))) := by
  refine Ct.of (by decide) (Nat.le_of_ble_eq_true rfl) ?_
  show G X l uFList_add (rk 0 0) 0 0 M 0 [some (.ref t), some (.int na), some (.int va), some (.int z)] [] _
  have n0 : ¬ t = a0 := fun q => by rw [q, t0] at hp; cases hp
  have n1 : ¬ t = a1 := fun q => by rw [q, t1] at hp; cases hp
  have n2 : ¬ t = a2 := fun q => by rw [q, t2] at hp; cases hp
  refine g_aload_n 0 dFList_add_0 rfl ?_
  refine g_geti 1 3 3 dFList_add_1 fs_FList_22 rfl hp ?_
  refine g_top (nI (c)) (by simp [mI_setI, up2, n0, n1, n2, hc]) ?_
  refine g_bipush 4 (nI 6) dFList_add_4 rfl ?_
  refine g_icmp_geN 6 49 dFList_add_6 rfl (by omega) (by omega) (fun h6 => ?_) (fun h6 => ?_)
  · exact absurd h6 (by omega)
  · refine g_aload_n 9 dFList_add_9 rfl ?_
    refine g_getr 10 3 0 dFList_add_10 fs_FList_9 rfl hp r0 ?_
    refine g_aload_n 13 dFList_add_13 rfl ?_
    refine g_geti 14 3 3 dFList_add_14 fs_FList_22 rfl hp ?_
    refine g_top (nI (c)) (by simp [mI_setI, up2, n0, n1, n2, hc]) ?_
    refine g_iload_n 17 dFList_add_17 rfl ?_
    refine g_iastN 18 dFList_add_18 t0 (by omega) (by decide) ?_
    refine g_aload_n 19 dFList_add_19 rfl ?_
    refine g_getr 20 3 1 dFList_add_20 fs_FList_15 rfl hp r1 ?_
    refine g_aload_n 23 dFList_add_23 rfl ?_
    refine g_geti 24 3 3 dFList_add_24 fs_FList_22 rfl hp ?_
    refine g_top (nI (c)) (by simp [mI_setI, up2, n0, n1, n2, hc]) ?_
    refine g_iload_n 27 dFList_add_27 rfl ?_
    refine g_iastN 28 dFList_add_28 t1 (by omega) (by decide) ?_
    refine g_aload_n 29 dFList_add_29 rfl ?_
    refine g_getr 30 3 2 dFList_add_30 fs_FList_18 rfl hp r2 ?_
    refine g_aload_n 33 dFList_add_33 rfl ?_
    refine g_geti 34 3 3 dFList_add_34 fs_FList_22 rfl hp ?_
    refine g_top (nI (c)) (by simp [mI_setI, up2, n0, n1, n2, hc]) ?_
    refine g_iload_n 37 dFList_add_37 rfl ?_
    refine g_zastN 38 dFList_add_38 t2 (by omega) (by decide) hz ?_
    refine g_aload_n 39 dFList_add_39 rfl ?_
    refine g_dup 40 dFList_add_40 rfl ?_
    refine g_geti 41 3 3 dFList_add_41 fs_FList_22 rfl hp ?_
    refine g_top (nI (c)) (by simp [mI_setI, up2, n0, n1, n2, hc]) ?_
    refine g_iconst 44 (nI 1) dFList_add_44 rfl ?_
    refine g_iaddN 45 dFList_add_45 ?_
    refine g_puti 46 3 3 dFList_add_46 ps_FList_22 rfl hp ?_
    exact g_vret 49 dFList_add_49 rfl ⟨rfl, rfl⟩
end
section
theorem dLink_window_0 : decode uLink_window.2.1 0 = .ok (.aload_n 0, 1) := by decide +kernel
theorem dLink_window_1 : decode uLink_window.2.1 1 = .ok (.iload_n 1, 1) := by decide +kernel
theorem dLink_window_2 : decode uLink_window.2.1 2 = .ok (.invokevirtual 128, 3) := by decide +kernel
theorem dLink_window_5 : decode uLink_window.2.1 5 = .ok (.astore 4, 2) := by decide +kernel
theorem dLink_window_7 : decode uLink_window.2.1 7 = .ok (.aload 4, 2) := by decide +kernel
theorem dLink_window_9 : decode uLink_window.2.1 9 = .ok (.ifnull 25, 3) := by decide +kernel
theorem dLink_window_12 : decode uLink_window.2.1 12 = .ok (.iload_n 2, 1) := by decide +kernel
theorem dLink_window_13 : decode uLink_window.2.1 13 = .ok (.ifCond .ne 21, 3) := by decide +kernel
theorem dLink_window_16 : decode uLink_window.2.1 16 = .ok (.iload_n 3, 1) := by decide +kernel
theorem dLink_window_17 : decode uLink_window.2.1 17 = .ok (.ifCond .eq 11, 3) := by decide +kernel
theorem dLink_window_20 : decode uLink_window.2.1 20 = .ok (.aload 4, 2) := by decide +kernel
theorem dLink_window_22 : decode uLink_window.2.1 22 = .ok (.getfield 162, 3) := by decide +kernel
theorem dLink_window_25 : decode uLink_window.2.1 25 = .ok (.goto 8, 3) := by decide +kernel
theorem dLink_window_28 : decode uLink_window.2.1 28 = .ok (.aload 4, 2) := by decide +kernel
theorem dLink_window_30 : decode uLink_window.2.1 30 = .ok (.getfield 165, 3) := by decide +kernel
theorem dLink_window_33 : decode uLink_window.2.1 33 = .ok (.ireturn, 1) := by decide +kernel
theorem dLink_window_34 : decode uLink_window.2.1 34 = .ok (.aload 4, 2) := by decide +kernel
theorem dLink_window_36 : decode uLink_window.2.1 36 = .ok (.iload_n 2, 1) := by decide +kernel
theorem dLink_window_37 : decode uLink_window.2.1 37 = .ok (.invokestatic 58, 3) := by decide +kernel
theorem dLink_window_40 : decode uLink_window.2.1 40 = .ok (.astore 5, 2) := by decide +kernel
theorem dLink_window_42 : decode uLink_window.2.1 42 = .ok (.aload 5, 2) := by decide +kernel
theorem dLink_window_44 : decode uLink_window.2.1 44 = .ok (.ifnull 11, 3) := by decide +kernel
theorem dLink_window_47 : decode uLink_window.2.1 47 = .ok (.aload 5, 2) := by decide +kernel
theorem dLink_window_49 : decode uLink_window.2.1 49 = .ok (.invokevirtual 104, 3) := by decide +kernel
theorem dLink_window_52 : decode uLink_window.2.1 52 = .ok (.ifCond .ne 5, 3) := by decide +kernel
theorem dLink_window_55 : decode uLink_window.2.1 55 = .ok (.iconst 0, 1) := by decide +kernel
theorem dLink_window_56 : decode uLink_window.2.1 56 = .ok (.ireturn, 1) := by decide +kernel
theorem dLink_window_57 : decode uLink_window.2.1 57 = .ok (.iload_n 3, 1) := by decide +kernel
theorem dLink_window_58 : decode uLink_window.2.1 58 = .ok (.ifCond .eq 11, 3) := by decide +kernel
theorem dLink_window_61 : decode uLink_window.2.1 61 = .ok (.aload 5, 2) := by decide +kernel
theorem dLink_window_63 : decode uLink_window.2.1 63 = .ok (.getfield 168, 3) := by decide +kernel
theorem dLink_window_66 : decode uLink_window.2.1 66 = .ok (.goto 8, 3) := by decide +kernel
theorem dLink_window_69 : decode uLink_window.2.1 69 = .ok (.aload 5, 2) := by decide +kernel
theorem dLink_window_71 : decode uLink_window.2.1 71 = .ok (.getfield 169, 3) := by decide +kernel
theorem dLink_window_74 : decode uLink_window.2.1 74 = .ok (.ireturn, 1) := by decide +kernel
theorem dLink_bytes_0 : decode uLink_bytes.2.1 0 = .ok (.aload_n 0, 1) := by decide +kernel
theorem dLink_bytes_1 : decode uLink_bytes.2.1 1 = .ok (.iload_n 1, 1) := by decide +kernel
theorem dLink_bytes_2 : decode uLink_bytes.2.1 2 = .ok (.invokevirtual 128, 3) := by decide +kernel
theorem dLink_bytes_5 : decode uLink_bytes.2.1 5 = .ok (.iload_n 2, 1) := by decide +kernel
theorem dLink_bytes_6 : decode uLink_bytes.2.1 6 = .ok (.invokestatic 58, 3) := by decide +kernel
theorem dLink_bytes_9 : decode uLink_bytes.2.1 9 = .ok (.astore 4, 2) := by decide +kernel
theorem dLink_bytes_11 : decode uLink_bytes.2.1 11 = .ok (.aload 4, 2) := by decide +kernel
theorem dLink_bytes_13 : decode uLink_bytes.2.1 13 = .ok (.ifnonnull 5, 3) := by decide +kernel
theorem dLink_bytes_16 : decode uLink_bytes.2.1 16 = .ok (.iconst (-1), 1) := by decide +kernel
theorem dLink_bytes_17 : decode uLink_bytes.2.1 17 = .ok (.ireturn, 1) := by decide +kernel
theorem dLink_bytes_18 : decode uLink_bytes.2.1 18 = .ok (.iload_n 3, 1) := by decide +kernel
theorem dLink_bytes_19 : decode uLink_bytes.2.1 19 = .ok (.ifCond .eq 14, 3) := by decide +kernel
theorem dLink_bytes_22 : decode uLink_bytes.2.1 22 = .ok (.aload 4, 2) := by decide +kernel
theorem dLink_bytes_24 : decode uLink_bytes.2.1 24 = .ok (.getfield 170, 3) := by decide +kernel
theorem dLink_bytes_27 : decode uLink_bytes.2.1 27 = .ok (.getfield 82, 3) := by decide +kernel
theorem dLink_bytes_30 : decode uLink_bytes.2.1 30 = .ok (.goto 11, 3) := by decide +kernel
theorem dLink_bytes_33 : decode uLink_bytes.2.1 33 = .ok (.aload 4, 2) := by decide +kernel
theorem dLink_bytes_35 : decode uLink_bytes.2.1 35 = .ok (.getfield 78, 3) := by decide +kernel
theorem dLink_bytes_38 : decode uLink_bytes.2.1 38 = .ok (.getfield 82, 3) := by decide +kernel
theorem dLink_bytes_41 : decode uLink_bytes.2.1 41 = .ok (.ireturn, 1) := by decide +kernel
theorem dLink_field_0 : decode uLink_field.2.1 0 = .ok (.aload_n 0, 1) := by decide +kernel
theorem dLink_field_1 : decode uLink_field.2.1 1 = .ok (.iload_n 1, 1) := by decide +kernel
theorem dLink_field_2 : decode uLink_field.2.1 2 = .ok (.invokevirtual 128, 3) := by decide +kernel
theorem dLink_field_5 : decode uLink_field.2.1 5 = .ok (.iload_n 2, 1) := by decide +kernel
theorem dLink_field_6 : decode uLink_field.2.1 6 = .ok (.invokestatic 58, 3) := by decide +kernel
theorem dLink_field_9 : decode uLink_field.2.1 9 = .ok (.astore 5, 2) := by decide +kernel
theorem dLink_field_11 : decode uLink_field.2.1 11 = .ok (.aload 5, 2) := by decide +kernel
theorem dLink_field_13 : decode uLink_field.2.1 13 = .ok (.ifnull 29, 3) := by decide +kernel
theorem dLink_field_16 : decode uLink_field.2.1 16 = .ok (.aload 5, 2) := by decide +kernel
theorem dLink_field_18 : decode uLink_field.2.1 18 = .ok (.getfield 173, 3) := by decide +kernel
theorem dLink_field_21 : decode uLink_field.2.1 21 = .ok (.ifnull 21, 3) := by decide +kernel
theorem dLink_field_24 : decode uLink_field.2.1 24 = .ok (.iload_n 3, 1) := by decide +kernel
theorem dLink_field_25 : decode uLink_field.2.1 25 = .ok (.iconst 0, 1) := by decide +kernel
theorem dLink_field_26 : decode uLink_field.2.1 26 = .ok (.aload 5, 2) := by decide +kernel
theorem dLink_field_28 : decode uLink_field.2.1 28 = .ok (.getfield 173, 3) := by decide +kernel
theorem dLink_field_31 : decode uLink_field.2.1 31 = .ok (.getfield 33, 3) := by decide +kernel
theorem dLink_field_34 : decode uLink_field.2.1 34 = .ok (.iconst 1, 1) := by decide +kernel
theorem dLink_field_35 : decode uLink_field.2.1 35 = .ok (.isub, 1) := by decide +kernel
theorem dLink_field_36 : decode uLink_field.2.1 36 = .ok (.invokestatic 25, 3) := by decide +kernel
theorem dLink_field_39 : decode uLink_field.2.1 39 = .ok (.ifCond .ne 5, 3) := by decide +kernel
theorem dLink_field_42 : decode uLink_field.2.1 42 = .ok (.iconst (-1), 1) := by decide +kernel
theorem dLink_field_43 : decode uLink_field.2.1 43 = .ok (.ireturn, 1) := by decide +kernel
theorem dLink_field_44 : decode uLink_field.2.1 44 = .ok (.iload 4, 2) := by decide +kernel
theorem dLink_field_46 : decode uLink_field.2.1 46 = .ok (.ifCond .eq 16, 3) := by decide +kernel
theorem dLink_field_49 : decode uLink_field.2.1 49 = .ok (.aload 5, 2) := by decide +kernel
theorem dLink_field_51 : decode uLink_field.2.1 51 = .ok (.getfield 173, 3) := by decide +kernel
theorem dLink_field_54 : decode uLink_field.2.1 54 = .ok (.getfield 176, 3) := by decide +kernel
theorem dLink_field_57 : decode uLink_field.2.1 57 = .ok (.iload_n 3, 1) := by decide +kernel
theorem dLink_field_58 : decode uLink_field.2.1 58 = .ok (.iaload, 1) := by decide +kernel
theorem dLink_field_59 : decode uLink_field.2.1 59 = .ok (.goto 13, 3) := by decide +kernel
theorem dLink_field_62 : decode uLink_field.2.1 62 = .ok (.aload 5, 2) := by decide +kernel
theorem dLink_field_64 : decode uLink_field.2.1 64 = .ok (.getfield 173, 3) := by decide +kernel
theorem dLink_field_67 : decode uLink_field.2.1 67 = .ok (.getfield 180, 3) := by decide +kernel
theorem dLink_field_70 : decode uLink_field.2.1 70 = .ok (.iload_n 3, 1) := by decide +kernel
theorem dLink_field_71 : decode uLink_field.2.1 71 = .ok (.iaload, 1) := by decide +kernel
theorem dLink_field_72 : decode uLink_field.2.1 72 = .ok (.ireturn, 1) := by decide +kernel
theorem dLink_table_0 : decode uLink_table.2.1 0 = .ok (.aload_n 0, 1) := by decide +kernel
theorem dLink_table_1 : decode uLink_table.2.1 1 = .ok (.iload_n 1, 1) := by decide +kernel
theorem dLink_table_2 : decode uLink_table.2.1 2 = .ok (.invokevirtual 128, 3) := by decide +kernel
theorem dLink_table_5 : decode uLink_table.2.1 5 = .ok (.astore 4, 2) := by decide +kernel
theorem dLink_table_7 : decode uLink_table.2.1 7 = .ok (.aload 4, 2) := by decide +kernel
theorem dLink_table_9 : decode uLink_table.2.1 9 = .ok (.ifnull 9, 3) := by decide +kernel
theorem dLink_table_12 : decode uLink_table.2.1 12 = .ok (.iload_n 3, 1) := by decide +kernel
theorem dLink_table_13 : decode uLink_table.2.1 13 = .ok (.bipush (-2), 2) := by decide +kernel
theorem dLink_table_15 : decode uLink_table.2.1 15 = .ok (.if_icmp .ge 5, 3) := by decide +kernel
theorem dLink_table_18 : decode uLink_table.2.1 18 = .ok (.iconst (-1), 1) := by decide +kernel
theorem dLink_table_19 : decode uLink_table.2.1 19 = .ok (.ireturn, 1) := by decide +kernel
theorem dLink_table_20 : decode uLink_table.2.1 20 = .ok (.iload_n 2, 1) := by decide +kernel
theorem dLink_table_21 : decode uLink_table.2.1 21 = .ok (.ifCond .eq 14, 3) := by decide +kernel
theorem dLink_table_24 : decode uLink_table.2.1 24 = .ok (.aload 4, 2) := by decide +kernel
theorem dLink_table_26 : decode uLink_table.2.1 26 = .ok (.getfield 183, 3) := by decide +kernel
theorem dLink_table_29 : decode uLink_table.2.1 29 = .ok (.getfield 187, 3) := by decide +kernel
theorem dLink_table_32 : decode uLink_table.2.1 32 = .ok (.goto 11, 3) := by decide +kernel
theorem dLink_table_35 : decode uLink_table.2.1 35 = .ok (.aload 4, 2) := by decide +kernel
theorem dLink_table_37 : decode uLink_table.2.1 37 = .ok (.getfield 193, 3) := by decide +kernel
theorem dLink_table_40 : decode uLink_table.2.1 40 = .ok (.getfield 197, 3) := by decide +kernel
theorem dLink_table_43 : decode uLink_table.2.1 43 = .ok (.astore 5, 2) := by decide +kernel
theorem dLink_table_45 : decode uLink_table.2.1 45 = .ok (.iload_n 3, 1) := by decide +kernel
theorem dLink_table_46 : decode uLink_table.2.1 46 = .ok (.bipush (-2), 2) := by decide +kernel
theorem dLink_table_48 : decode uLink_table.2.1 48 = .ok (.if_icmp .ne 9, 3) := by decide +kernel
theorem dLink_table_51 : decode uLink_table.2.1 51 = .ok (.aload 5, 2) := by decide +kernel
theorem dLink_table_53 : decode uLink_table.2.1 53 = .ok (.getfield 200, 3) := by decide +kernel
theorem dLink_table_56 : decode uLink_table.2.1 56 = .ok (.ireturn, 1) := by decide +kernel
theorem dLink_table_57 : decode uLink_table.2.1 57 = .ok (.iload_n 3, 1) := by decide +kernel
theorem dLink_table_58 : decode uLink_table.2.1 58 = .ok (.iconst (-1), 1) := by decide +kernel
theorem dLink_table_59 : decode uLink_table.2.1 59 = .ok (.if_icmp .ne 9, 3) := by decide +kernel
theorem dLink_table_62 : decode uLink_table.2.1 62 = .ok (.aload 5, 2) := by decide +kernel
theorem dLink_table_64 : decode uLink_table.2.1 64 = .ok (.getfield 205, 3) := by decide +kernel
theorem dLink_table_67 : decode uLink_table.2.1 67 = .ok (.ireturn, 1) := by decide +kernel
theorem dLink_table_68 : decode uLink_table.2.1 68 = .ok (.iload_n 3, 1) := by decide +kernel
theorem dLink_table_69 : decode uLink_table.2.1 69 = .ok (.aload 5, 2) := by decide +kernel
theorem dLink_table_71 : decode uLink_table.2.1 71 = .ok (.getfield 208, 3) := by decide +kernel
theorem dLink_table_74 : decode uLink_table.2.1 74 = .ok (.if_icmp .ge 13, 3) := by decide +kernel
theorem dLink_table_77 : decode uLink_table.2.1 77 = .ok (.aload 5, 2) := by decide +kernel
theorem dLink_table_79 : decode uLink_table.2.1 79 = .ok (.getfield 209, 3) := by decide +kernel
theorem dLink_table_82 : decode uLink_table.2.1 82 = .ok (.iload_n 3, 1) := by decide +kernel
theorem dLink_table_83 : decode uLink_table.2.1 83 = .ok (.iaload, 1) := by decide +kernel
theorem dLink_table_84 : decode uLink_table.2.1 84 = .ok (.goto 4, 3) := by decide +kernel
theorem dLink_table_87 : decode uLink_table.2.1 87 = .ok (.iconst 0, 1) := by decide +kernel
theorem dLink_table_88 : decode uLink_table.2.1 88 = .ok (.ireturn, 1) := by decide +kernel
theorem dLink_header_0 : decode uLink_header.2.1 0 = .ok (.aload_n 0, 1) := by decide +kernel
theorem dLink_header_1 : decode uLink_header.2.1 1 = .ok (.iload_n 1, 1) := by decide +kernel
theorem dLink_header_2 : decode uLink_header.2.1 2 = .ok (.invokevirtual 21, 3) := by decide +kernel
theorem dLink_header_5 : decode uLink_header.2.1 5 = .ok (.astore 5, 2) := by decide +kernel
theorem dLink_header_7 : decode uLink_header.2.1 7 = .ok (.aload 5, 2) := by decide +kernel
theorem dLink_header_9 : decode uLink_header.2.1 9 = .ok (.ifnull 26, 3) := by decide +kernel
theorem dLink_header_12 : decode uLink_header.2.1 12 = .ok (.iload_n 2, 1) := by decide +kernel
theorem dLink_header_13 : decode uLink_header.2.1 13 = .ok (.iconst 0, 1) := by decide +kernel
theorem dLink_header_14 : decode uLink_header.2.1 14 = .ok (.bipush 15, 2) := by decide +kernel
theorem dLink_header_16 : decode uLink_header.2.1 16 = .ok (.invokestatic 25, 3) := by decide +kernel
theorem dLink_header_19 : decode uLink_header.2.1 19 = .ok (.ifCond .eq 16, 3) := by decide +kernel
theorem dLink_header_22 : decode uLink_header.2.1 22 = .ok (.aload 5, 2) := by decide +kernel
theorem dLink_header_24 : decode uLink_header.2.1 24 = .ok (.getfield 29, 3) := by decide +kernel
theorem dLink_header_27 : decode uLink_header.2.1 27 = .ok (.getfield 33, 3) := by decide +kernel
theorem dLink_header_30 : decode uLink_header.2.1 30 = .ok (.bipush 6, 2) := by decide +kernel
theorem dLink_header_32 : decode uLink_header.2.1 32 = .ok (.if_icmp .lt 5, 3) := by decide +kernel
theorem dLink_header_35 : decode uLink_header.2.1 35 = .ok (.iconst (-1), 1) := by decide +kernel
theorem dLink_header_36 : decode uLink_header.2.1 36 = .ok (.ireturn, 1) := by decide +kernel
theorem dLink_header_37 : decode uLink_header.2.1 37 = .ok (.aload 5, 2) := by decide +kernel
theorem dLink_header_39 : decode uLink_header.2.1 39 = .ok (.getfield 29, 3) := by decide +kernel
theorem dLink_header_42 : decode uLink_header.2.1 42 = .ok (.iload_n 2, 1) := by decide +kernel
theorem dLink_header_43 : decode uLink_header.2.1 43 = .ok (.iload_n 3, 1) := by decide +kernel
theorem dLink_header_44 : decode uLink_header.2.1 44 = .ok (.iload 4, 2) := by decide +kernel
theorem dLink_header_46 : decode uLink_header.2.1 46 = .ok (.invokevirtual 39, 3) := by decide +kernel
theorem dLink_header_49 : decode uLink_header.2.1 49 = .ok (.aload 5, 2) := by decide +kernel
theorem dLink_header_51 : decode uLink_header.2.1 51 = .ok (.getfield 29, 3) := by decide +kernel
theorem dLink_header_54 : decode uLink_header.2.1 54 = .ok (.getfield 33, 3) := by decide +kernel
theorem dLink_header_57 : decode uLink_header.2.1 57 = .ok (.ireturn, 1) := by decide +kernel
theorem dLink_pump_0 : decode uLink_pump.2.1 0 = .ok (.aload_n 0, 1) := by decide +kernel
theorem dLink_pump_1 : decode uLink_pump.2.1 1 = .ok (.iload_n 1, 1) := by decide +kernel
theorem dLink_pump_2 : decode uLink_pump.2.1 2 = .ok (.invokevirtual 21, 3) := by decide +kernel
theorem dLink_pump_5 : decode uLink_pump.2.1 5 = .ok (.astore_n 3, 1) := by decide +kernel
theorem dLink_pump_6 : decode uLink_pump.2.1 6 = .ok (.aload_n 3, 1) := by decide +kernel
theorem dLink_pump_7 : decode uLink_pump.2.1 7 = .ok (.ifnull 13, 3) := by decide +kernel
theorem dLink_pump_10 : decode uLink_pump.2.1 10 = .ok (.iload_n 2, 1) := by decide +kernel
theorem dLink_pump_11 : decode uLink_pump.2.1 11 = .ok (.iconst 1, 1) := by decide +kernel
theorem dLink_pump_12 : decode uLink_pump.2.1 12 = .ok (.bipush 8, 2) := by decide +kernel
theorem dLink_pump_14 : decode uLink_pump.2.1 14 = .ok (.invokestatic 25, 3) := by decide +kernel
theorem dLink_pump_17 : decode uLink_pump.2.1 17 = .ok (.ifCond .ne 5, 3) := by decide +kernel
theorem dLink_pump_20 : decode uLink_pump.2.1 20 = .ok (.iconst (-1), 1) := by decide +kernel
theorem dLink_pump_21 : decode uLink_pump.2.1 21 = .ok (.ireturn, 1) := by decide +kernel
theorem dLink_pump_22 : decode uLink_pump.2.1 22 = .ok (.aload_n 3, 1) := by decide +kernel
theorem dLink_pump_23 : decode uLink_pump.2.1 23 = .ok (.iload_n 2, 1) := by decide +kernel
theorem dLink_pump_24 : decode uLink_pump.2.1 24 = .ok (.invokevirtual 89, 3) := by decide +kernel
theorem dLink_pump_27 : decode uLink_pump.2.1 27 = .ok (.ireturn, 1) := by decide +kernel
theorem dLink_write_0 : decode uLink_write.2.1 0 = .ok (.aload_n 0, 1) := by decide +kernel
theorem dLink_write_1 : decode uLink_write.2.1 1 = .ok (.iload_n 1, 1) := by decide +kernel
theorem dLink_write_2 : decode uLink_write.2.1 2 = .ok (.invokevirtual 21, 3) := by decide +kernel
theorem dLink_write_5 : decode uLink_write.2.1 5 = .ok (.iload_n 2, 1) := by decide +kernel
theorem dLink_write_6 : decode uLink_write.2.1 6 = .ok (.invokestatic 58, 3) := by decide +kernel
theorem dLink_write_9 : decode uLink_write.2.1 9 = .ok (.astore 7, 2) := by decide +kernel
theorem dLink_write_11 : decode uLink_write.2.1 11 = .ok (.aload 7, 2) := by decide +kernel
theorem dLink_write_13 : decode uLink_write.2.1 13 = .ok (.ifnull 27, 3) := by decide +kernel
theorem dLink_write_16 : decode uLink_write.2.1 16 = .ok (.aload 7, 2) := by decide +kernel
theorem dLink_write_18 : decode uLink_write.2.1 18 = .ok (.invokevirtual 62, 3) := by decide +kernel
theorem dLink_write_21 : decode uLink_write.2.1 21 = .ok (.ifCond .eq 19, 3) := by decide +kernel
theorem dLink_write_24 : decode uLink_write.2.1 24 = .ok (.aload 7, 2) := by decide +kernel
theorem dLink_write_26 : decode uLink_write.2.1 26 = .ok (.getfield 67, 3) := by decide +kernel
theorem dLink_write_29 : decode uLink_write.2.1 29 = .ok (.ifCond .eq 11, 3) := by decide +kernel
theorem dLink_write_32 : decode uLink_write.2.1 32 = .ok (.aload 7, 2) := by decide +kernel
theorem dLink_write_34 : decode uLink_write.2.1 34 = .ok (.getfield 75, 3) := by decide +kernel
theorem dLink_write_37 : decode uLink_write.2.1 37 = .ok (.ifCond .eq 5, 3) := by decide +kernel
theorem dLink_write_40 : decode uLink_write.2.1 40 = .ok (.iconst (-1), 1) := by decide +kernel
theorem dLink_write_41 : decode uLink_write.2.1 41 = .ok (.ireturn, 1) := by decide +kernel
theorem dLink_write_42 : decode uLink_write.2.1 42 = .ok (.iload 5, 2) := by decide +kernel
theorem dLink_write_44 : decode uLink_write.2.1 44 = .ok (.iconst 0, 1) := by decide +kernel
theorem dLink_write_45 : decode uLink_write.2.1 45 = .ok (.bipush 8, 2) := by decide +kernel
theorem dLink_write_47 : decode uLink_write.2.1 47 = .ok (.invokestatic 25, 3) := by decide +kernel
theorem dLink_write_50 : decode uLink_write.2.1 50 = .ok (.ifCond .eq 19, 3) := by decide +kernel
theorem dLink_write_53 : decode uLink_write.2.1 53 = .ok (.aload 7, 2) := by decide +kernel
theorem dLink_write_55 : decode uLink_write.2.1 55 = .ok (.getfield 78, 3) := by decide +kernel
theorem dLink_write_58 : decode uLink_write.2.1 58 = .ok (.getfield 82, 3) := by decide +kernel
theorem dLink_write_61 : decode uLink_write.2.1 61 = .ok (.iload 5, 2) := by decide +kernel
theorem dLink_write_63 : decode uLink_write.2.1 63 = .ok (.iadd, 1) := by decide +kernel
theorem dLink_write_64 : decode uLink_write.2.1 64 = .ok (.bipush 32, 2) := by decide +kernel
theorem dLink_write_66 : decode uLink_write.2.1 66 = .ok (.if_icmp .le 5, 3) := by decide +kernel
theorem dLink_write_69 : decode uLink_write.2.1 69 = .ok (.iconst (-1), 1) := by decide +kernel
theorem dLink_write_70 : decode uLink_write.2.1 70 = .ok (.ireturn, 1) := by decide +kernel
theorem dLink_write_71 : decode uLink_write.2.1 71 = .ok (.aload 7, 2) := by decide +kernel
theorem dLink_write_73 : decode uLink_write.2.1 73 = .ok (.getfield 78, 3) := by decide +kernel
theorem dLink_write_76 : decode uLink_write.2.1 76 = .ok (.lload_n 3, 1) := by decide +kernel
theorem dLink_write_77 : decode uLink_write.2.1 77 = .ok (.iload 5, 2) := by decide +kernel
theorem dLink_write_79 : decode uLink_write.2.1 79 = .ok (.invokevirtual 85, 3) := by decide +kernel
theorem dLink_write_82 : decode uLink_write.2.1 82 = .ok (.aload 7, 2) := by decide +kernel
theorem dLink_write_84 : decode uLink_write.2.1 84 = .ok (.iload 6, 2) := by decide +kernel
theorem dLink_write_86 : decode uLink_write.2.1 86 = .ok (.putfield 75, 3) := by decide +kernel
theorem dLink_write_89 : decode uLink_write.2.1 89 = .ok (.aload 7, 2) := by decide +kernel
theorem dLink_write_91 : decode uLink_write.2.1 91 = .ok (.getfield 78, 3) := by decide +kernel
theorem dLink_write_94 : decode uLink_write.2.1 94 = .ok (.getfield 82, 3) := by decide +kernel
theorem dLink_write_97 : decode uLink_write.2.1 97 = .ok (.ireturn, 1) := by decide +kernel
theorem dLink_read_0 : decode uLink_read.2.1 0 = .ok (.aload_n 0, 1) := by decide +kernel
theorem dLink_read_1 : decode uLink_read.2.1 1 = .ok (.iload_n 1, 1) := by decide +kernel
theorem dLink_read_2 : decode uLink_read.2.1 2 = .ok (.invokevirtual 21, 3) := by decide +kernel
theorem dLink_read_5 : decode uLink_read.2.1 5 = .ok (.astore 4, 2) := by decide +kernel
theorem dLink_read_7 : decode uLink_read.2.1 7 = .ok (.aload 4, 2) := by decide +kernel
theorem dLink_read_9 : decode uLink_read.2.1 9 = .ok (.iload_n 2, 1) := by decide +kernel
theorem dLink_read_10 : decode uLink_read.2.1 10 = .ok (.invokestatic 58, 3) := by decide +kernel
theorem dLink_read_13 : decode uLink_read.2.1 13 = .ok (.astore 5, 2) := by decide +kernel
theorem dLink_read_15 : decode uLink_read.2.1 15 = .ok (.aload 4, 2) := by decide +kernel
theorem dLink_read_17 : decode uLink_read.2.1 17 = .ok (.ifnull 26, 3) := by decide +kernel
theorem dLink_read_20 : decode uLink_read.2.1 20 = .ok (.aload 5, 2) := by decide +kernel
theorem dLink_read_22 : decode uLink_read.2.1 22 = .ok (.ifnull 21, 3) := by decide +kernel
theorem dLink_read_25 : decode uLink_read.2.1 25 = .ok (.aload 5, 2) := by decide +kernel
theorem dLink_read_27 : decode uLink_read.2.1 27 = .ok (.getfield 93, 3) := by decide +kernel
theorem dLink_read_30 : decode uLink_read.2.1 30 = .ok (.ifCond .eq 13, 3) := by decide +kernel
theorem dLink_read_33 : decode uLink_read.2.1 33 = .ok (.iload_n 3, 1) := by decide +kernel
theorem dLink_read_34 : decode uLink_read.2.1 34 = .ok (.iconst 1, 1) := by decide +kernel
theorem dLink_read_35 : decode uLink_read.2.1 35 = .ok (.bipush 7, 2) := by decide +kernel
theorem dLink_read_37 : decode uLink_read.2.1 37 = .ok (.invokestatic 25, 3) := by decide +kernel
theorem dLink_read_40 : decode uLink_read.2.1 40 = .ok (.ifCond .ne 7, 3) := by decide +kernel
theorem dLink_read_43 : decode uLink_read.2.1 43 = .ok (.ldc2_w 96, 3) := by decide +kernel
theorem dLink_read_46 : decode uLink_read.2.1 46 = .ok (.lreturn, 1) := by decide +kernel
theorem dLink_read_47 : decode uLink_read.2.1 47 = .ok (.aload 4, 2) := by decide +kernel
theorem dLink_read_49 : decode uLink_read.2.1 49 = .ok (.getfield 47, 3) := by decide +kernel
theorem dLink_read_52 : decode uLink_read.2.1 52 = .ok (.invokevirtual 51, 3) := by decide +kernel
theorem dLink_read_55 : decode uLink_read.2.1 55 = .ok (.ifCond .eq 7, 3) := by decide +kernel
theorem dLink_read_58 : decode uLink_read.2.1 58 = .ok (.ldc2_w 98, 3) := by decide +kernel
theorem dLink_read_61 : decode uLink_read.2.1 61 = .ok (.lreturn, 1) := by decide +kernel
theorem dLink_read_62 : decode uLink_read.2.1 62 = .ok (.aload 4, 2) := by decide +kernel
theorem dLink_read_64 : decode uLink_read.2.1 64 = .ok (.aload 5, 2) := by decide +kernel
theorem dLink_read_66 : decode uLink_read.2.1 66 = .ok (.iload_n 3, 1) := by decide +kernel
theorem dLink_read_67 : decode uLink_read.2.1 67 = .ok (.invokevirtual 100, 3) := by decide +kernel
theorem dLink_read_70 : decode uLink_read.2.1 70 = .ok (.lreturn, 1) := by decide +kernel
theorem dLink_reset_0 : decode uLink_reset.2.1 0 = .ok (.aload_n 0, 1) := by decide +kernel
theorem dLink_reset_1 : decode uLink_reset.2.1 1 = .ok (.iload_n 1, 1) := by decide +kernel
theorem dLink_reset_2 : decode uLink_reset.2.1 2 = .ok (.invokevirtual 21, 3) := by decide +kernel
theorem dLink_reset_5 : decode uLink_reset.2.1 5 = .ok (.astore 4, 2) := by decide +kernel
theorem dLink_reset_7 : decode uLink_reset.2.1 7 = .ok (.aload 4, 2) := by decide +kernel
theorem dLink_reset_9 : decode uLink_reset.2.1 9 = .ok (.iload_n 2, 1) := by decide +kernel
theorem dLink_reset_10 : decode uLink_reset.2.1 10 = .ok (.invokestatic 58, 3) := by decide +kernel
theorem dLink_reset_13 : decode uLink_reset.2.1 13 = .ok (.astore 5, 2) := by decide +kernel
theorem dLink_reset_15 : decode uLink_reset.2.1 15 = .ok (.aload 4, 2) := by decide +kernel
theorem dLink_reset_17 : decode uLink_reset.2.1 17 = .ok (.ifnull 26, 3) := by decide +kernel
theorem dLink_reset_20 : decode uLink_reset.2.1 20 = .ok (.aload 5, 2) := by decide +kernel
theorem dLink_reset_22 : decode uLink_reset.2.1 22 = .ok (.ifnull 21, 3) := by decide +kernel
theorem dLink_reset_25 : decode uLink_reset.2.1 25 = .ok (.aload 5, 2) := by decide +kernel
theorem dLink_reset_27 : decode uLink_reset.2.1 27 = .ok (.invokevirtual 104, 3) := by decide +kernel
theorem dLink_reset_30 : decode uLink_reset.2.1 30 = .ok (.ifCond .eq 13, 3) := by decide +kernel
theorem dLink_reset_33 : decode uLink_reset.2.1 33 = .ok (.iload_n 3, 1) := by decide +kernel
theorem dLink_reset_34 : decode uLink_reset.2.1 34 = .ok (.iconst 0, 1) := by decide +kernel
theorem dLink_reset_35 : decode uLink_reset.2.1 35 = .ok (.bipush 15, 2) := by decide +kernel
theorem dLink_reset_37 : decode uLink_reset.2.1 37 = .ok (.invokestatic 25, 3) := by decide +kernel
theorem dLink_reset_40 : decode uLink_reset.2.1 40 = .ok (.ifCond .ne 5, 3) := by decide +kernel
theorem dLink_reset_43 : decode uLink_reset.2.1 43 = .ok (.iconst 0, 1) := by decide +kernel
theorem dLink_reset_44 : decode uLink_reset.2.1 44 = .ok (.ireturn, 1) := by decide +kernel
theorem dLink_reset_45 : decode uLink_reset.2.1 45 = .ok (.aload 4, 2) := by decide +kernel
theorem dLink_reset_47 : decode uLink_reset.2.1 47 = .ok (.getfield 47, 3) := by decide +kernel
theorem dLink_reset_50 : decode uLink_reset.2.1 50 = .ok (.invokevirtual 51, 3) := by decide +kernel
theorem dLink_reset_53 : decode uLink_reset.2.1 53 = .ok (.ifCond .eq 5, 3) := by decide +kernel
theorem dLink_reset_56 : decode uLink_reset.2.1 56 = .ok (.iconst 0, 1) := by decide +kernel
theorem dLink_reset_57 : decode uLink_reset.2.1 57 = .ok (.ireturn, 1) := by decide +kernel
theorem dLink_reset_58 : decode uLink_reset.2.1 58 = .ok (.aload 4, 2) := by decide +kernel
theorem dLink_reset_60 : decode uLink_reset.2.1 60 = .ok (.aload 5, 2) := by decide +kernel
theorem dLink_reset_62 : decode uLink_reset.2.1 62 = .ok (.iload_n 3, 1) := by decide +kernel
theorem dLink_reset_63 : decode uLink_reset.2.1 63 = .ok (.iconst 0, 1) := by decide +kernel
theorem dLink_reset_64 : decode uLink_reset.2.1 64 = .ok (.invokevirtual 107, 3) := by decide +kernel
theorem dLink_reset_67 : decode uLink_reset.2.1 67 = .ok (.pop, 1) := by decide +kernel
theorem dLink_reset_68 : decode uLink_reset.2.1 68 = .ok (.iconst 1, 1) := by decide +kernel
theorem dLink_reset_69 : decode uLink_reset.2.1 69 = .ok (.ireturn, 1) := by decide +kernel
theorem dLink_setting_0 : decode uLink_setting.2.1 0 = .ok (.aload_n 0, 1) := by decide +kernel
theorem dLink_setting_1 : decode uLink_setting.2.1 1 = .ok (.iload_n 1, 1) := by decide +kernel
theorem dLink_setting_2 : decode uLink_setting.2.1 2 = .ok (.invokevirtual 21, 3) := by decide +kernel
theorem dLink_setting_5 : decode uLink_setting.2.1 5 = .ok (.astore 4, 2) := by decide +kernel
theorem dLink_setting_7 : decode uLink_setting.2.1 7 = .ok (.aload 4, 2) := by decide +kernel
theorem dLink_setting_9 : decode uLink_setting.2.1 9 = .ok (.ifnull 18, 3) := by decide +kernel
theorem dLink_setting_12 : decode uLink_setting.2.1 12 = .ok (.iload_n 2, 1) := by decide +kernel
theorem dLink_setting_13 : decode uLink_setting.2.1 13 = .ok (.invokestatic 111, 3) := by decide +kernel
theorem dLink_setting_16 : decode uLink_setting.2.1 16 = .ok (.ifCond .eq 11, 3) := by decide +kernel
theorem dLink_setting_19 : decode uLink_setting.2.1 19 = .ok (.iload_n 2, 1) := by decide +kernel
theorem dLink_setting_20 : decode uLink_setting.2.1 20 = .ok (.iload_n 3, 1) := by decide +kernel
theorem dLink_setting_21 : decode uLink_setting.2.1 21 = .ok (.invokestatic 117, 3) := by decide +kernel
theorem dLink_setting_24 : decode uLink_setting.2.1 24 = .ok (.ifCond .ne 5, 3) := by decide +kernel
theorem dLink_setting_27 : decode uLink_setting.2.1 27 = .ok (.iconst 0, 1) := by decide +kernel
theorem dLink_setting_28 : decode uLink_setting.2.1 28 = .ok (.ireturn, 1) := by decide +kernel
theorem dLink_setting_29 : decode uLink_setting.2.1 29 = .ok (.aload 4, 2) := by decide +kernel
theorem dLink_setting_31 : decode uLink_setting.2.1 31 = .ok (.getfield 121, 3) := by decide +kernel
theorem dLink_setting_34 : decode uLink_setting.2.1 34 = .ok (.bipush 8, 2) := by decide +kernel
theorem dLink_setting_36 : decode uLink_setting.2.1 36 = .ok (.if_icmp .ge 14, 3) := by decide +kernel
theorem dLink_setting_39 : decode uLink_setting.2.1 39 = .ok (.aload 4, 2) := by decide +kernel
theorem dLink_setting_41 : decode uLink_setting.2.1 41 = .ok (.getfield 47, 3) := by decide +kernel
theorem dLink_setting_44 : decode uLink_setting.2.1 44 = .ok (.invokevirtual 51, 3) := by decide +kernel
theorem dLink_setting_47 : decode uLink_setting.2.1 47 = .ok (.ifCond .eq 5, 3) := by decide +kernel
theorem dLink_setting_50 : decode uLink_setting.2.1 50 = .ok (.iconst 0, 1) := by decide +kernel
theorem dLink_setting_51 : decode uLink_setting.2.1 51 = .ok (.ireturn, 1) := by decide +kernel
theorem dLink_setting_52 : decode uLink_setting.2.1 52 = .ok (.aload 4, 2) := by decide +kernel
theorem dLink_setting_54 : decode uLink_setting.2.1 54 = .ok (.iload_n 2, 1) := by decide +kernel
theorem dLink_setting_55 : decode uLink_setting.2.1 55 = .ok (.iload_n 3, 1) := by decide +kernel
theorem dLink_setting_56 : decode uLink_setting.2.1 56 = .ok (.invokevirtual 124, 3) := by decide +kernel
theorem dLink_setting_59 : decode uLink_setting.2.1 59 = .ok (.iconst 1, 1) := by decide +kernel
theorem dLink_setting_60 : decode uLink_setting.2.1 60 = .ok (.ireturn, 1) := by decide +kernel
theorem dLink_deliver_0 : decode uLink_deliver.2.1 0 = .ok (.aload_n 0, 1) := by decide +kernel
theorem dLink_deliver_1 : decode uLink_deliver.2.1 1 = .ok (.iload_n 1, 1) := by decide +kernel
theorem dLink_deliver_2 : decode uLink_deliver.2.1 2 = .ok (.invokevirtual 128, 3) := by decide +kernel
theorem dLink_deliver_5 : decode uLink_deliver.2.1 5 = .ok (.astore_n 2, 1) := by decide +kernel
theorem dLink_deliver_6 : decode uLink_deliver.2.1 6 = .ok (.aload_n 2, 1) := by decide +kernel
theorem dLink_deliver_7 : decode uLink_deliver.2.1 7 = .ok (.ifnull 13, 3) := by decide +kernel
theorem dLink_deliver_10 : decode uLink_deliver.2.1 10 = .ok (.aload_n 2, 1) := by decide +kernel
theorem dLink_deliver_11 : decode uLink_deliver.2.1 11 = .ok (.getfield 131, 3) := by decide +kernel
theorem dLink_deliver_14 : decode uLink_deliver.2.1 14 = .ok (.getfield 134, 3) := by decide +kernel
theorem dLink_deliver_17 : decode uLink_deliver.2.1 17 = .ok (.ifCond .ne 5, 3) := by decide +kernel
theorem dLink_deliver_20 : decode uLink_deliver.2.1 20 = .ok (.iconst (-1), 1) := by decide +kernel
theorem dLink_deliver_21 : decode uLink_deliver.2.1 21 = .ok (.ireturn, 1) := by decide +kernel
theorem dLink_deliver_22 : decode uLink_deliver.2.1 22 = .ok (.aload_n 2, 1) := by decide +kernel
theorem dLink_deliver_23 : decode uLink_deliver.2.1 23 = .ok (.getfield 135, 3) := by decide +kernel
theorem dLink_deliver_26 : decode uLink_deliver.2.1 26 = .ok (.ifCond .eq 7, 3) := by decide +kernel
theorem dLink_deliver_29 : decode uLink_deliver.2.1 29 = .ok (.iconst 1, 1) := by decide +kernel
theorem dLink_deliver_30 : decode uLink_deliver.2.1 30 = .ok (.goto 4, 3) := by decide +kernel
theorem dLink_deliver_33 : decode uLink_deliver.2.1 33 = .ok (.iconst 0, 1) := by decide +kernel
theorem dLink_deliver_34 : decode uLink_deliver.2.1 34 = .ok (.istore_n 3, 1) := by decide +kernel
theorem dLink_deliver_35 : decode uLink_deliver.2.1 35 = .ok (.iload_n 3, 1) := by decide +kernel
theorem dLink_deliver_36 : decode uLink_deliver.2.1 36 = .ok (.ifCond .ne 18, 3) := by decide +kernel
theorem dLink_deliver_39 : decode uLink_deliver.2.1 39 = .ok (.aload_n 2, 1) := by decide +kernel
theorem dLink_deliver_40 : decode uLink_deliver.2.1 40 = .ok (.getfield 47, 3) := by decide +kernel
theorem dLink_deliver_43 : decode uLink_deliver.2.1 43 = .ok (.getfield 134, 3) := by decide +kernel
theorem dLink_deliver_46 : decode uLink_deliver.2.1 46 = .ok (.bipush 40, 2) := by decide +kernel
theorem dLink_deliver_48 : decode uLink_deliver.2.1 48 = .ok (.if_icmp .lt 6, 3) := by decide +kernel
theorem dLink_deliver_51 : decode uLink_deliver.2.1 51 = .ok (.bipush (-2), 2) := by decide +kernel
theorem dLink_deliver_53 : decode uLink_deliver.2.1 53 = .ok (.ireturn, 1) := by decide +kernel
theorem dLink_deliver_54 : decode uLink_deliver.2.1 54 = .ok (.aload_n 2, 1) := by decide +kernel
theorem dLink_deliver_55 : decode uLink_deliver.2.1 55 = .ok (.getfield 131, 3) := by decide +kernel
theorem dLink_deliver_58 : decode uLink_deliver.2.1 58 = .ok (.invokevirtual 138, 3) := by decide +kernel
theorem dLink_deliver_61 : decode uLink_deliver.2.1 61 = .ok (.astore 4, 2) := by decide +kernel
theorem dLink_deliver_63 : decode uLink_deliver.2.1 63 = .ok (.iload_n 3, 1) := by decide +kernel
theorem dLink_deliver_64 : decode uLink_deliver.2.1 64 = .ok (.ifCond .ne 8, 3) := by decide +kernel
theorem dLink_deliver_67 : decode uLink_deliver.2.1 67 = .ok (.aload 4, 2) := by decide +kernel
theorem dLink_deliver_69 : decode uLink_deliver.2.1 69 = .ok (.ifnonnull 7, 3) := by decide +kernel
theorem dLink_deliver_72 : decode uLink_deliver.2.1 72 = .ok (.iconst 0, 1) := by decide +kernel
theorem dLink_deliver_73 : decode uLink_deliver.2.1 73 = .ok (.goto 9, 3) := by decide +kernel
theorem dLink_deliver_76 : decode uLink_deliver.2.1 76 = .ok (.aload_n 2, 1) := by decide +kernel
theorem dLink_deliver_77 : decode uLink_deliver.2.1 77 = .ok (.aload 4, 2) := by decide +kernel
theorem dLink_deliver_79 : decode uLink_deliver.2.1 79 = .ok (.invokevirtual 142, 3) := by decide +kernel
theorem dLink_deliver_82 : decode uLink_deliver.2.1 82 = .ok (.ireturn, 1) := by decide +kernel
theorem dLink_frame_0 : decode uLink_frame.2.1 0 = .ok (.aload_n 0, 1) := by decide +kernel
theorem dLink_frame_1 : decode uLink_frame.2.1 1 = .ok (.iload_n 1, 1) := by decide +kernel
theorem dLink_frame_2 : decode uLink_frame.2.1 2 = .ok (.invokevirtual 128, 3) := by decide +kernel
theorem dLink_frame_5 : decode uLink_frame.2.1 5 = .ok (.astore 4, 2) := by decide +kernel
theorem dLink_frame_7 : decode uLink_frame.2.1 7 = .ok (.aload 4, 2) := by decide +kernel
theorem dLink_frame_9 : decode uLink_frame.2.1 9 = .ok (.ifnonnull 7, 3) := by decide +kernel
theorem dLink_frame_12 : decode uLink_frame.2.1 12 = .ok (.aconst_null, 1) := by decide +kernel
theorem dLink_frame_13 : decode uLink_frame.2.1 13 = .ok (.goto 12, 3) := by decide +kernel
theorem dLink_frame_16 : decode uLink_frame.2.1 16 = .ok (.aload 4, 2) := by decide +kernel
theorem dLink_frame_18 : decode uLink_frame.2.1 18 = .ok (.getfield 131, 3) := by decide +kernel
theorem dLink_frame_21 : decode uLink_frame.2.1 21 = .ok (.iload_n 2, 1) := by decide +kernel
theorem dLink_frame_22 : decode uLink_frame.2.1 22 = .ok (.invokevirtual 153, 3) := by decide +kernel
theorem dLink_frame_25 : decode uLink_frame.2.1 25 = .ok (.astore 5, 2) := by decide +kernel
theorem dLink_frame_27 : decode uLink_frame.2.1 27 = .ok (.aload 5, 2) := by decide +kernel
theorem dLink_frame_29 : decode uLink_frame.2.1 29 = .ok (.ifnonnull 7, 3) := by decide +kernel
theorem dLink_frame_32 : decode uLink_frame.2.1 32 = .ok (.iconst (-1), 1) := by decide +kernel
theorem dLink_frame_33 : decode uLink_frame.2.1 33 = .ok (.goto 9, 3) := by decide +kernel
theorem dLink_frame_36 : decode uLink_frame.2.1 36 = .ok (.aload 5, 2) := by decide +kernel
theorem dLink_frame_38 : decode uLink_frame.2.1 38 = .ok (.iload_n 3, 1) := by decide +kernel
theorem dLink_frame_39 : decode uLink_frame.2.1 39 = .ok (.invokevirtual 157, 3) := by decide +kernel
theorem dLink_frame_42 : decode uLink_frame.2.1 42 = .ok (.ireturn, 1) := by decide +kernel
theorem dLink_request_0 : decode uLink_request.2.1 0 = .ok (.aload_n 0, 1) := by decide +kernel
theorem dLink_request_1 : decode uLink_request.2.1 1 = .ok (.iconst 0, 1) := by decide +kernel
theorem dLink_request_2 : decode uLink_request.2.1 2 = .ok (.invokevirtual 21, 3) := by decide +kernel
theorem dLink_request_5 : decode uLink_request.2.1 5 = .ok (.astore_n 2, 1) := by decide +kernel
theorem dLink_request_6 : decode uLink_request.2.1 6 = .ok (.aload_n 2, 1) := by decide +kernel
theorem dLink_request_7 : decode uLink_request.2.1 7 = .ok (.ifnull 10, 3) := by decide +kernel
theorem dLink_request_10 : decode uLink_request.2.1 10 = .ok (.aload_n 2, 1) := by decide +kernel
theorem dLink_request_11 : decode uLink_request.2.1 11 = .ok (.invokevirtual 43, 3) := by decide +kernel
theorem dLink_request_14 : decode uLink_request.2.1 14 = .ok (.ifCond .ne 5, 3) := by decide +kernel
theorem dLink_request_17 : decode uLink_request.2.1 17 = .ok (.iconst (-1), 1) := by decide +kernel
theorem dLink_request_18 : decode uLink_request.2.1 18 = .ok (.ireturn, 1) := by decide +kernel
theorem dLink_request_19 : decode uLink_request.2.1 19 = .ok (.aload_n 2, 1) := by decide +kernel
theorem dLink_request_20 : decode uLink_request.2.1 20 = .ok (.getfield 47, 3) := by decide +kernel
theorem dLink_request_23 : decode uLink_request.2.1 23 = .ok (.invokevirtual 51, 3) := by decide +kernel
theorem dLink_request_26 : decode uLink_request.2.1 26 = .ok (.ifCond .eq 6, 3) := by decide +kernel
theorem dLink_request_29 : decode uLink_request.2.1 29 = .ok (.bipush (-2), 2) := by decide +kernel
theorem dLink_request_31 : decode uLink_request.2.1 31 = .ok (.ireturn, 1) := by decide +kernel
theorem dLink_request_32 : decode uLink_request.2.1 32 = .ok (.aload_n 2, 1) := by decide +kernel
theorem dLink_request_33 : decode uLink_request.2.1 33 = .ok (.iload_n 1, 1) := by decide +kernel
theorem dLink_request_34 : decode uLink_request.2.1 34 = .ok (.invokevirtual 54, 3) := by decide +kernel
theorem dLink_request_37 : decode uLink_request.2.1 37 = .ok (.ireturn, 1) := by decide +kernel
theorem dLink_respond_0 : decode uLink_respond.2.1 0 = .ok (.aload_n 0, 1) := by decide +kernel
theorem dLink_respond_1 : decode uLink_respond.2.1 1 = .ok (.iconst 1, 1) := by decide +kernel
theorem dLink_respond_2 : decode uLink_respond.2.1 2 = .ok (.invokevirtual 21, 3) := by decide +kernel
theorem dLink_respond_5 : decode uLink_respond.2.1 5 = .ok (.astore_n 3, 1) := by decide +kernel
theorem dLink_respond_6 : decode uLink_respond.2.1 6 = .ok (.aload_n 3, 1) := by decide +kernel
theorem dLink_respond_7 : decode uLink_respond.2.1 7 = .ok (.iload_n 1, 1) := by decide +kernel
theorem dLink_respond_8 : decode uLink_respond.2.1 8 = .ok (.invokestatic 58, 3) := by decide +kernel
theorem dLink_respond_11 : decode uLink_respond.2.1 11 = .ok (.astore 4, 2) := by decide +kernel
theorem dLink_respond_13 : decode uLink_respond.2.1 13 = .ok (.aload_n 3, 1) := by decide +kernel
theorem dLink_respond_14 : decode uLink_respond.2.1 14 = .ok (.ifnull 34, 3) := by decide +kernel
theorem dLink_respond_17 : decode uLink_respond.2.1 17 = .ok (.aload 4, 2) := by decide +kernel
theorem dLink_respond_19 : decode uLink_respond.2.1 19 = .ok (.ifnull 29, 3) := by decide +kernel
theorem dLink_respond_22 : decode uLink_respond.2.1 22 = .ok (.aload 4, 2) := by decide +kernel
theorem dLink_respond_24 : decode uLink_respond.2.1 24 = .ok (.invokevirtual 62, 3) := by decide +kernel
theorem dLink_respond_27 : decode uLink_respond.2.1 27 = .ok (.ifCond .eq 21, 3) := by decide +kernel
theorem dLink_respond_30 : decode uLink_respond.2.1 30 = .ok (.aload 4, 2) := by decide +kernel
theorem dLink_respond_32 : decode uLink_respond.2.1 32 = .ok (.getfield 67, 3) := by decide +kernel
theorem dLink_respond_35 : decode uLink_respond.2.1 35 = .ok (.ifCond .ne 13, 3) := by decide +kernel
theorem dLink_respond_38 : decode uLink_respond.2.1 38 = .ok (.aload_n 3, 1) := by decide +kernel
theorem dLink_respond_39 : decode uLink_respond.2.1 39 = .ok (.getfield 29, 3) := by decide +kernel
theorem dLink_respond_42 : decode uLink_respond.2.1 42 = .ok (.getfield 33, 3) := by decide +kernel
theorem dLink_respond_45 : decode uLink_respond.2.1 45 = .ok (.ifCond .ne 5, 3) := by decide +kernel
theorem dLink_respond_48 : decode uLink_respond.2.1 48 = .ok (.iconst (-1), 1) := by decide +kernel
theorem dLink_respond_49 : decode uLink_respond.2.1 49 = .ok (.ireturn, 1) := by decide +kernel
theorem dLink_respond_50 : decode uLink_respond.2.1 50 = .ok (.aload_n 3, 1) := by decide +kernel
theorem dLink_respond_51 : decode uLink_respond.2.1 51 = .ok (.getfield 47, 3) := by decide +kernel
theorem dLink_respond_54 : decode uLink_respond.2.1 54 = .ok (.invokevirtual 51, 3) := by decide +kernel
theorem dLink_respond_57 : decode uLink_respond.2.1 57 = .ok (.ifCond .eq 6, 3) := by decide +kernel
theorem dLink_respond_60 : decode uLink_respond.2.1 60 = .ok (.bipush (-2), 2) := by decide +kernel
theorem dLink_respond_62 : decode uLink_respond.2.1 62 = .ok (.ireturn, 1) := by decide +kernel
theorem dLink_respond_63 : decode uLink_respond.2.1 63 = .ok (.aload_n 3, 1) := by decide +kernel
theorem dLink_respond_64 : decode uLink_respond.2.1 64 = .ok (.getfield 29, 3) := by decide +kernel
theorem dLink_respond_67 : decode uLink_respond.2.1 67 = .ok (.getfield 33, 3) := by decide +kernel
theorem dLink_respond_70 : decode uLink_respond.2.1 70 = .ok (.istore 5, 2) := by decide +kernel
theorem dLink_respond_72 : decode uLink_respond.2.1 72 = .ok (.aload_n 3, 1) := by decide +kernel
theorem dLink_respond_73 : decode uLink_respond.2.1 73 = .ok (.aload 4, 2) := by decide +kernel
theorem dLink_respond_75 : decode uLink_respond.2.1 75 = .ok (.iload_n 2, 1) := by decide +kernel
theorem dLink_respond_76 : decode uLink_respond.2.1 76 = .ok (.invokevirtual 71, 3) := by decide +kernel
theorem dLink_respond_79 : decode uLink_respond.2.1 79 = .ok (.iload 5, 2) := by decide +kernel
theorem dLink_respond_81 : decode uLink_respond.2.1 81 = .ok (.ireturn, 1) := by decide +kernel
theorem fs_Link_165 : fS "InterleavedLink" 165 2 4 := ⟨"InterleavedLink$End", T_End, 17, cf_End, by decide, Or.inl (gW_in 308 (by decide +kernel) rfl)⟩
theorem fs_Link_162 : fS "InterleavedLink" 162 2 5 := ⟨"InterleavedLink$End", T_End, 17, cf_End, by decide, Or.inl (gW_in 310 (by decide +kernel) rfl)⟩
theorem cs_Link_104 : cV "InterleavedLink" 104 uStream_isActive 0 := ⟨⟨Or.inl (gW_in 653 (by decide +kernel) rfl), (gW_in 72 (by decide +kernel) rfl), (gW_in 399 (by decide +kernel) rfl), ⟨by decide, by decide⟩, by decide +kernel⟩, (gW_in 397 (by decide +kernel) rfl), (gW_in 398 (by decide +kernel) rfl)⟩
theorem fs_Link_169 : fS "InterleavedLink" 169 8 3 := ⟨"InterleavedLink$Stream", T_Stream, 10, cf_Stream, by decide, Or.inl (gW_in 260 (by decide +kernel) rfl)⟩
theorem fs_Link_168 : fS "InterleavedLink" 168 8 4 := ⟨"InterleavedLink$Stream", T_Stream, 10, cf_Stream, by decide, Or.inl (gW_in 263 (by decide +kernel) rfl)⟩
theorem fs_Link_78 : fS "InterleavedLink" 78 8 8 := ⟨"InterleavedLink$Stream", T_Stream, 10, cf_Stream, by decide, Or.inl (gW_in 274 (by decide +kernel) rfl)⟩
theorem fs_Link_82 : fS "InterleavedLink" 82 9 1 := ⟨"InterleavedLink$ByteQueue", T_BQ, 2, cf_BQ, by decide, Or.inl (gW_in 243 (by decide +kernel) rfl)⟩
theorem fs_Link_170 : fS "InterleavedLink" 170 8 9 := ⟨"InterleavedLink$Stream", T_Stream, 10, cf_Stream, by decide, Or.inl (gW_in 278 (by decide +kernel) rfl)⟩
theorem fs_Link_173 : fS "InterleavedLink" 173 8 7 := ⟨"InterleavedLink$Stream", T_Stream, 10, cf_Stream, by decide, Or.inl (gW_in 271 (by decide +kernel) rfl)⟩
theorem cs_Link_21 : cV "InterleavedLink" 21 uLink_upEndOf 1 := ⟨⟨Or.inl (gW_in 369 (by decide +kernel) rfl), (gW_in 64 (by decide +kernel) rfl), (gW_in 372 (by decide +kernel) rfl), ⟨by decide, by decide⟩, by decide +kernel⟩, (gW_in 371 (by decide +kernel) rfl), (gW_in 0 (by decide +kernel) rfl)⟩
theorem cs_Link_25 : cSt "InterleavedLink" 25 uLink_isWithin 3 := ⟨⟨Or.inl (gW_in 377 (by decide +kernel) rfl), (gW_in 64 (by decide +kernel) rfl), (gW_in 379 (by decide +kernel) rfl), ⟨by decide, by decide⟩, by decide +kernel⟩, (gW_in 378 (by decide +kernel) rfl)⟩
theorem fs_Link_29 : fS "InterleavedLink" 29 2 6 := ⟨"InterleavedLink$End", T_End, 17, cf_End, by decide, Or.inl (gW_in 312 (by decide +kernel) rfl)⟩
theorem fs_Link_33 : fS "InterleavedLink" 33 3 3 := ⟨"InterleavedLink$FieldList", T_FList, 4, cf_FList, by decide, Or.inl (gW_in 129 (by decide +kernel) rfl)⟩
theorem cs_Link_62 : cV "InterleavedLink" 62 uStream_maySend 0 := ⟨⟨Or.inl (gW_in 564 (by decide +kernel) rfl), (gW_in 72 (by decide +kernel) rfl), (gW_in 567 (by decide +kernel) rfl), ⟨by decide, by decide⟩, by decide +kernel⟩, (gW_in 565 (by decide +kernel) rfl), (gW_in 566 (by decide +kernel) rfl)⟩
theorem lc_Link_96 : Cond.constantLong "InterleavedLink" 96 (-1) ∈ gW := gW_in 632 (by decide +kernel) rfl
theorem cs_Link_111 : cSt "InterleavedLink" 111 uSett_isKnown 1 := ⟨⟨Or.inl (gW_in 673 (by decide +kernel) rfl), (gW_in 71 (by decide +kernel) rfl), (gW_in 675 (by decide +kernel) rfl), ⟨by decide, by decide⟩, by decide +kernel⟩, (gW_in 674 (by decide +kernel) rfl)⟩
theorem cs_Link_117 : cSt "InterleavedLink" 117 uSett_isInRange 2 := ⟨⟨Or.inl (gW_in 676 (by decide +kernel) rfl), (gW_in 71 (by decide +kernel) rfl), (gW_in 678 (by decide +kernel) rfl), ⟨by decide, by decide⟩, by decide +kernel⟩, (gW_in 677 (by decide +kernel) rfl)⟩
theorem fs_Link_131 : fS "InterleavedLink" 131 2 1 := ⟨"InterleavedLink$End", T_End, 17, cf_End, by decide, Or.inl (gW_in 302 (by decide +kernel) rfl)⟩
theorem fs_Link_134 : fS "InterleavedLink" 134 1 2 := ⟨"InterleavedLink$Pipe", T_Pipe, 3, cf_Pipe, by decide, Or.inl (gW_in 99 (by decide +kernel) rfl)⟩
/-! ===== the class: calls that change nothing ===== -/
set_option maxRecDepth 100000 in
set_option maxHeartbeats 4000000 in
theorem ct_Link_window_no {X : mX} {l : Launch} {M : mM} {x : Int32} (hS : Shp M) (h0 : ¬ x = 0) (h1 : ¬ x = 1) {y z : Int32} : Ct X l uLink_window (rk 3 64) [.ref 3, .int x, .int y, .int z] M (fun r M' => r = some (.int 0) ∧ M' = M) := by
  refine Ct.of (by decide) (Nat.le_of_ble_eq_true rfl) ?_
  show G X l uLink_window (rk 3 64) 0 0 M 0 [some (.ref 3), some (.int x), some (.int y), some (.int z), none, none] [] _
  refine g_aload_n 0 dLink_window_0 rfl ?_
  refine g_iload_n 1 dLink_window_1 rfl ?_
  refine g_callV 2 [_] dLink_window_2 cs_Link_128 rfl (ci := 0) rfl (by decide) hS.link rfl ⟨(Nat.le_of_ble_eq_true rfl), (Nat.le_of_ble_eq_true rfl)⟩ (Nat.le_of_ble_eq_true rfl) (ct_endOf_no h0 h1) (Nat.le_of_ble_eq_true rfl) (Nat.le_of_ble_eq_true rfl) ?_
  rintro _ M2 ⟨rfl, hM2⟩
  rw [hM2]
  clear hM2 M2
  refine g_astoreN 5 dLink_window_5 (by decide) rfl ?_
  refine g_aloadN 7 dLink_window_7 rfl ?_
  refine g_ifnullN 9 34 dLink_window_9 rfl ?_
  refine g_aloadN 34 dLink_window_34 rfl ?_
  refine g_iload_n 36 dLink_window_36 rfl ?_
  refine g_callS 37 [_, _] dLink_window_37 cs_Link_58 rfl rfl ⟨(Nat.le_of_ble_eq_true rfl), (Nat.le_of_ble_eq_true rfl)⟩ (Nat.le_of_ble_eq_true rfl) (ct_streamOf_N) (Nat.le_of_ble_eq_true rfl) (Nat.le_of_ble_eq_true rfl) ?_
  rintro _ M2 ⟨rfl, hM2⟩
  rw [hM2]
  clear hM2 M2
  refine g_astoreN 40 dLink_window_40 (by decide) rfl ?_
  refine g_aloadN 42 dLink_window_42 rfl ?_
  refine g_ifnullN 44 55 dLink_window_44 rfl ?_
  refine g_iconst 55 0 dLink_window_55 rfl ?_
  exact g_iret 56 dLink_window_56 rfl ⟨rfl, rfl⟩

set_option maxRecDepth 100000 in
set_option maxHeartbeats 4000000 in
theorem ct_Link_window_0 {X : mX} {l : Launch} {M : mM} {e : Nat} (hS : Shp M) (he : e < 2) {z : Int32} : Ct X l uLink_window (rk 3 64) [.ref 3, .int (nI e), .int 0, .int z] M (fun r M' => r = some (.int (if z = 0 then mI M (9 + 80 * e) 4 else mI M (9 + 80 * e) 5)) ∧ M' = M) := by
  refine Ct.of (by decide) (Nat.le_of_ble_eq_true rfl) ?_
  show G X l uLink_window (rk 3 64) 0 0 M 0 [some (.ref 3), some (.int (nI e)), some (.int 0), some (.int z), none, none] [] _
  refine g_aload_n 0 dLink_window_0 rfl ?_
  refine g_iload_n 1 dLink_window_1 rfl ?_
  refine g_callV 2 [_] dLink_window_2 cs_Link_128 rfl (ci := 0) rfl (by decide) hS.link rfl ⟨(Nat.le_of_ble_eq_true rfl), (Nat.le_of_ble_eq_true rfl)⟩ (Nat.le_of_ble_eq_true rfl) (ct_endOf hS he) (Nat.le_of_ble_eq_true rfl) (Nat.le_of_ble_eq_true rfl) ?_
  rintro _ M2 ⟨rfl, hM2⟩
  rw [hM2]
  clear hM2 M2
  refine g_astore 5 dLink_window_5 (by decide) rfl ?_
  refine g_aload 7 dLink_window_7 rfl ?_
  refine g_ifnull 9 dLink_window_9 ?_
  refine g_iload_n 12 dLink_window_12 rfl ?_
  refine g_if_ne 13 34 dLink_window_13 rfl (fun h13 => ?_) (fun h13 => ?_)
  · exact absurd rfl h13
  · refine g_iload_n 16 dLink_window_16 rfl ?_
    refine g_if_eq 17 28 dLink_window_17 rfl (fun h17 => ?_) (fun h17 => ?_)
    · refine g_aload 28 dLink_window_28 rfl ?_
      refine g_geti 30 2 4 dLink_window_30 fs_Link_165 rfl (hS.tEnd he) ?_
      exact g_iret 33 dLink_window_33 rfl ⟨by first | (simp only [*, if_true, if_false, not_true_eq_false, not_false_eq_true, and_true, true_and, and_false, false_and, and_self, reduceIte]; done) | (simp_all []; done), rfl⟩
    · refine g_aload 20 dLink_window_20 rfl ?_
      refine g_geti 22 2 5 dLink_window_22 fs_Link_162 rfl (hS.tEnd he) ?_
      refine g_goto 25 33 dLink_window_25 rfl ?_
      exact g_iret 33 dLink_window_33 rfl ⟨by first | (simp only [*, if_true, if_false, not_true_eq_false, not_false_eq_true, and_true, true_and, and_false, false_and, and_self, reduceIte]; done) | (simp_all []; done), rfl⟩

set_option maxRecDepth 100000 in
set_option maxHeartbeats 4000000 in
theorem ct_Link_window_ns {X : mX} {l : Launch} {M : mM} {e : Nat} (hS : Shp M) (he : e < 2) {y z : Int32} (hy : ¬ y = 0) (hx : ¬ isStr y) : Ct X l uLink_window (rk 3 64) [.ref 3, .int (nI e), .int y, .int z] M (fun r M' => r = some (.int 0) ∧ M' = M) := by
  refine Ct.of (by decide) (Nat.le_of_ble_eq_true rfl) ?_
  show G X l uLink_window (rk 3 64) 0 0 M 0 [some (.ref 3), some (.int (nI e)), some (.int y), some (.int z), none, none] [] _
  refine g_aload_n 0 dLink_window_0 rfl ?_
  refine g_iload_n 1 dLink_window_1 rfl ?_
  refine g_callV 2 [_] dLink_window_2 cs_Link_128 rfl (ci := 0) rfl (by decide) hS.link rfl ⟨(Nat.le_of_ble_eq_true rfl), (Nat.le_of_ble_eq_true rfl)⟩ (Nat.le_of_ble_eq_true rfl) (ct_endOf hS he) (Nat.le_of_ble_eq_true rfl) (Nat.le_of_ble_eq_true rfl) ?_
  rintro _ M2 ⟨rfl, hM2⟩
  rw [hM2]
  clear hM2 M2
  refine g_astore 5 dLink_window_5 (by decide) rfl ?_
  refine g_aload 7 dLink_window_7 rfl ?_
  refine g_ifnull 9 dLink_window_9 ?_
  refine g_iload_n 12 dLink_window_12 rfl ?_
  refine g_if_ne 13 34 dLink_window_13 rfl (fun h13 => ?_) (fun h13 => ?_)
  · refine g_aload 34 dLink_window_34 rfl ?_
    refine g_iload_n 36 dLink_window_36 rfl ?_
    refine g_callS 37 [_, _] dLink_window_37 cs_Link_58 rfl rfl ⟨(Nat.le_of_ble_eq_true rfl), (Nat.le_of_ble_eq_true rfl)⟩ (Nat.le_of_ble_eq_true rfl) (ct_streamOf_no hS he hx) (Nat.le_of_ble_eq_true rfl) (Nat.le_of_ble_eq_true rfl) ?_
    rintro _ M2 ⟨rfl, hM2⟩
    rw [hM2]
    clear hM2 M2
    refine g_astoreN 40 dLink_window_40 (by decide) rfl ?_
    refine g_aloadN 42 dLink_window_42 rfl ?_
    refine g_ifnullN 44 55 dLink_window_44 rfl ?_
    refine g_iconst 55 0 dLink_window_55 rfl ?_
    exact g_iret 56 dLink_window_56 rfl ⟨rfl, rfl⟩
  · exact absurd h13 hy

set_option maxRecDepth 100000 in
set_option maxHeartbeats 4000000 in
theorem ct_Link_window {X : mX} {l : Launch} {M : mM} {e k : Nat} (hS : Shp M) (he : e < 2) (hk : k < 12) {z : Int32} : Ct X l uLink_window (rk 3 64) [.ref 3, .int (nI e), .int (nI (2 * k + 1)), .int z] M (fun r M' => r = some (.int (if acC M e k = 0 then 0 else if z = 0 then mI M (29 + 80 * e + 5 * k) 3 else mI M (29 + 80 * e + 5 * k) 4)) ∧ M' = M) := by
  refine Ct.of (by decide) (Nat.le_of_ble_eq_true rfl) ?_
  show G X l uLink_window (rk 3 64) 0 0 M 0 [some (.ref 3), some (.int (nI e)), some (.int (nI (2 * k + 1))), some (.int z), none, none] [] _
  refine g_aload_n 0 dLink_window_0 rfl ?_
  refine g_iload_n 1 dLink_window_1 rfl ?_
  refine g_callV 2 [_] dLink_window_2 cs_Link_128 rfl (ci := 0) rfl (by decide) hS.link rfl ⟨(Nat.le_of_ble_eq_true rfl), (Nat.le_of_ble_eq_true rfl)⟩ (Nat.le_of_ble_eq_true rfl) (ct_endOf hS he) (Nat.le_of_ble_eq_true rfl) (Nat.le_of_ble_eq_true rfl) ?_
  rintro _ M2 ⟨rfl, hM2⟩
  rw [hM2]
  clear hM2 M2
  refine g_astore 5 dLink_window_5 (by decide) rfl ?_
  refine g_aload 7 dLink_window_7 rfl ?_
  refine g_ifnull 9 dLink_window_9 ?_
  refine g_iload_n 12 dLink_window_12 rfl ?_
  refine g_if_neN 13 34 dLink_window_13 rfl (by omega) (fun h13 => ?_) (fun h13 => ?_)
  · refine g_aload 34 dLink_window_34 rfl ?_
    refine g_iload_n 36 dLink_window_36 rfl ?_
    refine g_callS 37 [_, _] dLink_window_37 cs_Link_58 rfl rfl ⟨(Nat.le_of_ble_eq_true rfl), (Nat.le_of_ble_eq_true rfl)⟩ (Nat.le_of_ble_eq_true rfl) (ct_streamOf hS he hk) (Nat.le_of_ble_eq_true rfl) (Nat.le_of_ble_eq_true rfl) ?_
    rintro _ M2 ⟨rfl, hM2⟩
    rw [hM2]
    clear hM2 M2
    refine g_astore 40 dLink_window_40 (by decide) rfl ?_
    refine g_aload 42 dLink_window_42 rfl ?_
    refine g_ifnull 44 dLink_window_44 ?_
    refine g_aload 47 dLink_window_47 rfl ?_
    refine g_callV 49 [] dLink_window_49 cs_Link_104 rfl (ci := 8) rfl (by decide) (hS.tStr he hk) rfl ⟨(Nat.le_of_ble_eq_true rfl), (Nat.le_of_ble_eq_true rfl)⟩ (Nat.le_of_ble_eq_true rfl) (ct_Str_isActive hS he hk) (Nat.le_of_ble_eq_true rfl) (Nat.le_of_ble_eq_true rfl) ?_
    rintro _ M2 ⟨rfl, hM2⟩
    rw [hM2]
    clear hM2 M2
    refine g_if_ne 52 57 dLink_window_52 rfl (fun h52 => ?_) (fun h52 => ?_)
    · refine g_iload_n 57 dLink_window_57 rfl ?_
      refine g_if_eq 58 69 dLink_window_58 rfl (fun h58 => ?_) (fun h58 => ?_)
      · refine g_aload 69 dLink_window_69 rfl ?_
        refine g_geti 71 8 3 dLink_window_71 fs_Link_169 rfl (hS.tStr he hk) ?_
        exact g_iret 74 dLink_window_74 rfl ⟨by first | (simp only [*, if_true, if_false, not_true_eq_false, not_false_eq_true, and_true, true_and, and_false, false_and, and_self, reduceIte]; done) | (simp_all []; done), rfl⟩
      · refine g_aload 61 dLink_window_61 rfl ?_
        refine g_geti 63 8 4 dLink_window_63 fs_Link_168 rfl (hS.tStr he hk) ?_
        refine g_goto 66 74 dLink_window_66 rfl ?_
        exact g_iret 74 dLink_window_74 rfl ⟨by first | (simp only [*, if_true, if_false, not_true_eq_false, not_false_eq_true, and_true, true_and, and_false, false_and, and_self, reduceIte]; done) | (simp_all []; done), rfl⟩
    · refine g_iconst 55 0 dLink_window_55 rfl ?_
      exact g_iret 56 dLink_window_56 rfl ⟨by first | (simp only [*, if_true, if_false, not_true_eq_false, not_false_eq_true, and_true, true_and, and_false, false_and, and_self, reduceIte]; done) | (simp_all []; done), rfl⟩
  · exact absurd h13 (by omega)

set_option maxRecDepth 100000 in
set_option maxHeartbeats 4000000 in
theorem ct_Link_bytes_no {X : mX} {l : Launch} {M : mM} {x : Int32} (hS : Shp M) (h0 : ¬ x = 0) (h1 : ¬ x = 1) {y z : Int32} : Ct X l uLink_bytes (rk 3 64) [.ref 3, .int x, .int y, .int z] M (fun r M' => r = some (.int (-1)) ∧ M' = M) := by
  refine Ct.of (by decide) (Nat.le_of_ble_eq_true rfl) ?_
  show G X l uLink_bytes (rk 3 64) 0 0 M 0 [some (.ref 3), some (.int x), some (.int y), some (.int z), none] [] _
  refine g_aload_n 0 dLink_bytes_0 rfl ?_
  refine g_iload_n 1 dLink_bytes_1 rfl ?_
  refine g_callV 2 [_] dLink_bytes_2 cs_Link_128 rfl (ci := 0) rfl (by decide) hS.link rfl ⟨(Nat.le_of_ble_eq_true rfl), (Nat.le_of_ble_eq_true rfl)⟩ (Nat.le_of_ble_eq_true rfl) (ct_endOf_no h0 h1) (Nat.le_of_ble_eq_true rfl) (Nat.le_of_ble_eq_true rfl) ?_
  rintro _ M2 ⟨rfl, hM2⟩
  rw [hM2]
  clear hM2 M2
  refine g_iload_n 5 dLink_bytes_5 rfl ?_
  refine g_callS 6 [_, _] dLink_bytes_6 cs_Link_58 rfl rfl ⟨(Nat.le_of_ble_eq_true rfl), (Nat.le_of_ble_eq_true rfl)⟩ (Nat.le_of_ble_eq_true rfl) (ct_streamOf_N) (Nat.le_of_ble_eq_true rfl) (Nat.le_of_ble_eq_true rfl) ?_
  rintro _ M2 ⟨rfl, hM2⟩
  rw [hM2]
  clear hM2 M2
  refine g_astoreN 9 dLink_bytes_9 (by decide) rfl ?_
  refine g_aloadN 11 dLink_bytes_11 rfl ?_
  refine g_ifnonnullN 13 dLink_bytes_13 ?_
  refine g_iconst 16 (-1) dLink_bytes_16 rfl ?_
  exact g_iret 17 dLink_bytes_17 rfl ⟨rfl, rfl⟩

set_option maxRecDepth 100000 in
set_option maxHeartbeats 4000000 in
theorem ct_Link_bytes_ns {X : mX} {l : Launch} {M : mM} {e : Nat} (hS : Shp M) (he : e < 2) {y z : Int32} (hx : ¬ isStr y) : Ct X l uLink_bytes (rk 3 64) [.ref 3, .int (nI e), .int y, .int z] M (fun r M' => r = some (.int (-1)) ∧ M' = M) := by
  refine Ct.of (by decide) (Nat.le_of_ble_eq_true rfl) ?_
  show G X l uLink_bytes (rk 3 64) 0 0 M 0 [some (.ref 3), some (.int (nI e)), some (.int y), some (.int z), none] [] _
  refine g_aload_n 0 dLink_bytes_0 rfl ?_
  refine g_iload_n 1 dLink_bytes_1 rfl ?_
  refine g_callV 2 [_] dLink_bytes_2 cs_Link_128 rfl (ci := 0) rfl (by decide) hS.link rfl ⟨(Nat.le_of_ble_eq_true rfl), (Nat.le_of_ble_eq_true rfl)⟩ (Nat.le_of_ble_eq_true rfl) (ct_endOf hS he) (Nat.le_of_ble_eq_true rfl) (Nat.le_of_ble_eq_true rfl) ?_
  rintro _ M2 ⟨rfl, hM2⟩
  rw [hM2]
  clear hM2 M2
  refine g_iload_n 5 dLink_bytes_5 rfl ?_
  refine g_callS 6 [_, _] dLink_bytes_6 cs_Link_58 rfl rfl ⟨(Nat.le_of_ble_eq_true rfl), (Nat.le_of_ble_eq_true rfl)⟩ (Nat.le_of_ble_eq_true rfl) (ct_streamOf_no hS he hx) (Nat.le_of_ble_eq_true rfl) (Nat.le_of_ble_eq_true rfl) ?_
  rintro _ M2 ⟨rfl, hM2⟩
  rw [hM2]
  clear hM2 M2
  refine g_astoreN 9 dLink_bytes_9 (by decide) rfl ?_
  refine g_aloadN 11 dLink_bytes_11 rfl ?_
  refine g_ifnonnullN 13 dLink_bytes_13 ?_
  refine g_iconst 16 (-1) dLink_bytes_16 rfl ?_
  exact g_iret 17 dLink_bytes_17 rfl ⟨rfl, rfl⟩

set_option maxRecDepth 100000 in
set_option maxHeartbeats 4000000 in
theorem ct_Link_bytes {X : mX} {l : Launch} {M : mM} {e k : Nat} (hS : Shp M) (he : e < 2) (hk : k < 12) {z : Int32} : Ct X l uLink_bytes (rk 3 64) [.ref 3, .int (nI e), .int (nI (2 * k + 1)), .int z] M (fun r M' => r = some (.int (if z = 0 then mI M (30 + 80 * e + 5 * k) 1 else mI M (32 + 80 * e + 5 * k) 1)) ∧ M' = M) := by
  refine Ct.of (by decide) (Nat.le_of_ble_eq_true rfl) ?_
  show G X l uLink_bytes (rk 3 64) 0 0 M 0 [some (.ref 3), some (.int (nI e)), some (.int (nI (2 * k + 1))), some (.int z), none] [] _
  refine g_aload_n 0 dLink_bytes_0 rfl ?_
  refine g_iload_n 1 dLink_bytes_1 rfl ?_
  refine g_callV 2 [_] dLink_bytes_2 cs_Link_128 rfl (ci := 0) rfl (by decide) hS.link rfl ⟨(Nat.le_of_ble_eq_true rfl), (Nat.le_of_ble_eq_true rfl)⟩ (Nat.le_of_ble_eq_true rfl) (ct_endOf hS he) (Nat.le_of_ble_eq_true rfl) (Nat.le_of_ble_eq_true rfl) ?_
  rintro _ M2 ⟨rfl, hM2⟩
  rw [hM2]
  clear hM2 M2
  refine g_iload_n 5 dLink_bytes_5 rfl ?_
  refine g_callS 6 [_, _] dLink_bytes_6 cs_Link_58 rfl rfl ⟨(Nat.le_of_ble_eq_true rfl), (Nat.le_of_ble_eq_true rfl)⟩ (Nat.le_of_ble_eq_true rfl) (ct_streamOf hS he hk) (Nat.le_of_ble_eq_true rfl) (Nat.le_of_ble_eq_true rfl) ?_
  rintro _ M2 ⟨rfl, hM2⟩
  rw [hM2]
  clear hM2 M2
  refine g_astore 9 dLink_bytes_9 (by decide) rfl ?_
  refine g_aload 11 dLink_bytes_11 rfl ?_
  refine g_ifnonnull 13 18 dLink_bytes_13 rfl ?_
  refine g_iload_n 18 dLink_bytes_18 rfl ?_
  refine g_if_eq 19 33 dLink_bytes_19 rfl (fun h19 => ?_) (fun h19 => ?_)
  · refine g_aload 33 dLink_bytes_33 rfl ?_
    refine g_getr 35 8 8 dLink_bytes_35 fs_Link_78 rfl (hS.tStr he hk) (hS.rStr8 he hk) ?_
    refine g_geti 38 9 1 dLink_bytes_38 fs_Link_82 rfl (hS.tWt he hk) ?_
    exact g_iret 41 dLink_bytes_41 rfl ⟨by first | (simp only [*, if_true, if_false, not_true_eq_false, not_false_eq_true, and_true, true_and, and_false, false_and, and_self, reduceIte]; done) | (simp_all []; done), rfl⟩
  · refine g_aload 22 dLink_bytes_22 rfl ?_
    refine g_getr 24 8 9 dLink_bytes_24 fs_Link_170 rfl (hS.tStr he hk) (hS.rStr9 he hk) ?_
    refine g_geti 27 9 1 dLink_bytes_27 fs_Link_82 rfl (hS.tUr he hk) ?_
    refine g_goto 30 41 dLink_bytes_30 rfl ?_
    exact g_iret 41 dLink_bytes_41 rfl ⟨by first | (simp only [*, if_true, if_false, not_true_eq_false, not_false_eq_true, and_true, true_and, and_false, false_and, and_self, reduceIte]; done) | (simp_all []; done), rfl⟩

set_option maxRecDepth 100000 in
set_option maxHeartbeats 4000000 in
theorem ct_Link_field_no {X : mX} {l : Launch} {M : mM} {x : Int32} (hS : Shp M) (h0 : ¬ x = 0) (h1 : ¬ x = 1) {y j z : Int32} : Ct X l uLink_field (rk 3 64) [.ref 3, .int x, .int y, .int j, .int z] M (fun r M' => r = some (.int (-1)) ∧ M' = M) := by
  refine Ct.of (by decide) (Nat.le_of_ble_eq_true rfl) ?_
  show G X l uLink_field (rk 3 64) 0 0 M 0 [some (.ref 3), some (.int x), some (.int y), some (.int j), some (.int z), none] [] _
  refine g_aload_n 0 dLink_field_0 rfl ?_
  refine g_iload_n 1 dLink_field_1 rfl ?_
  refine g_callV 2 [_] dLink_field_2 cs_Link_128 rfl (ci := 0) rfl (by decide) hS.link rfl ⟨(Nat.le_of_ble_eq_true rfl), (Nat.le_of_ble_eq_true rfl)⟩ (Nat.le_of_ble_eq_true rfl) (ct_endOf_no h0 h1) (Nat.le_of_ble_eq_true rfl) (Nat.le_of_ble_eq_true rfl) ?_
  rintro _ M2 ⟨rfl, hM2⟩
  rw [hM2]
  clear hM2 M2
  refine g_iload_n 5 dLink_field_5 rfl ?_
  refine g_callS 6 [_, _] dLink_field_6 cs_Link_58 rfl rfl ⟨(Nat.le_of_ble_eq_true rfl), (Nat.le_of_ble_eq_true rfl)⟩ (Nat.le_of_ble_eq_true rfl) (ct_streamOf_N) (Nat.le_of_ble_eq_true rfl) (Nat.le_of_ble_eq_true rfl) ?_
  rintro _ M2 ⟨rfl, hM2⟩
  rw [hM2]
  clear hM2 M2
  refine g_astoreN 9 dLink_field_9 (by decide) rfl ?_
  refine g_aloadN 11 dLink_field_11 rfl ?_
  refine g_ifnullN 13 42 dLink_field_13 rfl ?_
  refine g_iconst 42 (-1) dLink_field_42 rfl ?_
  exact g_iret 43 dLink_field_43 rfl ⟨rfl, rfl⟩

set_option maxRecDepth 100000 in
set_option maxHeartbeats 4000000 in
theorem ct_Link_field_ns {X : mX} {l : Launch} {M : mM} {e : Nat} (hS : Shp M) (he : e < 2) {y j z : Int32} (hx : ¬ isStr y) : Ct X l uLink_field (rk 3 64) [.ref 3, .int (nI e), .int y, .int j, .int z] M (fun r M' => r = some (.int (-1)) ∧ M' = M) := by
  refine Ct.of (by decide) (Nat.le_of_ble_eq_true rfl) ?_
  show G X l uLink_field (rk 3 64) 0 0 M 0 [some (.ref 3), some (.int (nI e)), some (.int y), some (.int j), some (.int z), none] [] _
  refine g_aload_n 0 dLink_field_0 rfl ?_
  refine g_iload_n 1 dLink_field_1 rfl ?_
  refine g_callV 2 [_] dLink_field_2 cs_Link_128 rfl (ci := 0) rfl (by decide) hS.link rfl ⟨(Nat.le_of_ble_eq_true rfl), (Nat.le_of_ble_eq_true rfl)⟩ (Nat.le_of_ble_eq_true rfl) (ct_endOf hS he) (Nat.le_of_ble_eq_true rfl) (Nat.le_of_ble_eq_true rfl) ?_
  rintro _ M2 ⟨rfl, hM2⟩
  rw [hM2]
  clear hM2 M2
  refine g_iload_n 5 dLink_field_5 rfl ?_
  refine g_callS 6 [_, _] dLink_field_6 cs_Link_58 rfl rfl ⟨(Nat.le_of_ble_eq_true rfl), (Nat.le_of_ble_eq_true rfl)⟩ (Nat.le_of_ble_eq_true rfl) (ct_streamOf_no hS he hx) (Nat.le_of_ble_eq_true rfl) (Nat.le_of_ble_eq_true rfl) ?_
  rintro _ M2 ⟨rfl, hM2⟩
  rw [hM2]
  clear hM2 M2
  refine g_astoreN 9 dLink_field_9 (by decide) rfl ?_
  refine g_aloadN 11 dLink_field_11 rfl ?_
  refine g_ifnullN 13 42 dLink_field_13 rfl ?_
  refine g_iconst 42 (-1) dLink_field_42 rfl ?_
  exact g_iret 43 dLink_field_43 rfl ⟨rfl, rfl⟩

set_option maxRecDepth 100000 in
set_option maxHeartbeats 4000000 in
theorem ct_Link_field_nl {X : mX} {l : Launch} {M : mM} {e k : Nat} (hS : Shp M) (he : e < 2) (hk : k < 12) {j z : Int32} (hl : mR M (29 + 80 * e + 5 * k) 7 = none) : Ct X l uLink_field (rk 3 64) [.ref 3, .int (nI e), .int (nI (2 * k + 1)), .int j, .int z] M (fun r M' => r = some (.int (-1)) ∧ M' = M) := by
  refine Ct.of (by decide) (Nat.le_of_ble_eq_true rfl) ?_
  show G X l uLink_field (rk 3 64) 0 0 M 0 [some (.ref 3), some (.int (nI e)), some (.int (nI (2 * k + 1))), some (.int j), some (.int z), none] [] _
  refine g_aload_n 0 dLink_field_0 rfl ?_
  refine g_iload_n 1 dLink_field_1 rfl ?_
  refine g_callV 2 [_] dLink_field_2 cs_Link_128 rfl (ci := 0) rfl (by decide) hS.link rfl ⟨(Nat.le_of_ble_eq_true rfl), (Nat.le_of_ble_eq_true rfl)⟩ (Nat.le_of_ble_eq_true rfl) (ct_endOf hS he) (Nat.le_of_ble_eq_true rfl) (Nat.le_of_ble_eq_true rfl) ?_
  rintro _ M2 ⟨rfl, hM2⟩
  rw [hM2]
  clear hM2 M2
  refine g_iload_n 5 dLink_field_5 rfl ?_
  refine g_callS 6 [_, _] dLink_field_6 cs_Link_58 rfl rfl ⟨(Nat.le_of_ble_eq_true rfl), (Nat.le_of_ble_eq_true rfl)⟩ (Nat.le_of_ble_eq_true rfl) (ct_streamOf hS he hk) (Nat.le_of_ble_eq_true rfl) (Nat.le_of_ble_eq_true rfl) ?_
  rintro _ M2 ⟨rfl, hM2⟩
  rw [hM2]
  clear hM2 M2
  refine g_astore 9 dLink_field_9 (by decide) rfl ?_
  refine g_aload 11 dLink_field_11 rfl ?_
  refine g_ifnull 13 dLink_field_13 ?_
  refine g_aload 16 dLink_field_16 rfl ?_
  refine g_getN 18 8 7 dLink_field_18 fs_Link_173 rfl (hS.tStr he hk) hl ?_
  refine g_ifnullN 21 42 dLink_field_21 rfl ?_
  refine g_iconst 42 (-1) dLink_field_42 rfl ?_
  exact g_iret 43 dLink_field_43 rfl ⟨rfl, rfl⟩

set_option maxRecDepth 100000 in
set_option maxHeartbeats 4000000 in
theorem ct_Link_table_no {X : mX} {l : Launch} {M : mM} {x : Int32} (hS : Shp M) (h0 : ¬ x = 0) (h1 : ¬ x = 1) {z j : Int32} : Ct X l uLink_table (rk 1 21) [.ref 3, .int x, .int z, .int j] M (fun r M' => r = some (.int (-1)) ∧ M' = M) := by
  refine Ct.of (by decide) (Nat.le_of_ble_eq_true rfl) ?_
  show G X l uLink_table (rk 1 21) 0 0 M 0 [some (.ref 3), some (.int x), some (.int z), some (.int j), none, none] [] _
  refine g_aload_n 0 dLink_table_0 rfl ?_
  refine g_iload_n 1 dLink_table_1 rfl ?_
  refine g_callV 2 [_] dLink_table_2 cs_Link_128 rfl (ci := 0) rfl (by decide) hS.link rfl ⟨(Nat.le_of_ble_eq_true rfl), (Nat.le_of_ble_eq_true rfl)⟩ (Nat.le_of_ble_eq_true rfl) (ct_endOf_no h0 h1) (Nat.le_of_ble_eq_true rfl) (Nat.le_of_ble_eq_true rfl) ?_
  rintro _ M2 ⟨rfl, hM2⟩
  rw [hM2]
  clear hM2 M2
  refine g_astoreN 5 dLink_table_5 (by decide) rfl ?_
  refine g_aloadN 7 dLink_table_7 rfl ?_
  refine g_ifnullN 9 18 dLink_table_9 rfl ?_
  refine g_iconst 18 (-1) dLink_table_18 rfl ?_
  exact g_iret 19 dLink_table_19 rfl ⟨rfl, rfl⟩

set_option maxRecDepth 100000 in
set_option maxHeartbeats 4000000 in
theorem ct_Link_table_lo {X : mX} {l : Launch} {M : mM} {e : Nat} (hS : Shp M) (he : e < 2) {z j : Int32} (hj : ¬ -2 ≤ j) : Ct X l uLink_table (rk 1 21) [.ref 3, .int (nI e), .int z, .int j] M (fun r M' => r = some (.int (-1)) ∧ M' = M) := by
  refine Ct.of (by decide) (Nat.le_of_ble_eq_true rfl) ?_
  show G X l uLink_table (rk 1 21) 0 0 M 0 [some (.ref 3), some (.int (nI e)), some (.int z), some (.int j), none, none] [] _
  refine g_aload_n 0 dLink_table_0 rfl ?_
  refine g_iload_n 1 dLink_table_1 rfl ?_
  refine g_callV 2 [_] dLink_table_2 cs_Link_128 rfl (ci := 0) rfl (by decide) hS.link rfl ⟨(Nat.le_of_ble_eq_true rfl), (Nat.le_of_ble_eq_true rfl)⟩ (Nat.le_of_ble_eq_true rfl) (ct_endOf hS he) (Nat.le_of_ble_eq_true rfl) (Nat.le_of_ble_eq_true rfl) ?_
  rintro _ M2 ⟨rfl, hM2⟩
  rw [hM2]
  clear hM2 M2
  refine g_astore 5 dLink_table_5 (by decide) rfl ?_
  refine g_aload 7 dLink_table_7 rfl ?_
  refine g_ifnull 9 dLink_table_9 ?_
  refine g_iload_n 12 dLink_table_12 rfl ?_
  refine g_bipush 13 (-2) dLink_table_13 rfl ?_
  refine g_icmp_ge 15 20 dLink_table_15 rfl (fun h15 => ?_) (fun h15 => ?_)
  · exact absurd h15 hj
  · refine g_iconst 18 (-1) dLink_table_18 rfl ?_
    exact g_iret 19 dLink_table_19 rfl ⟨rfl, rfl⟩

set_option maxRecDepth 100000 in
set_option maxHeartbeats 4000000 in
theorem ct_Link_header_no {X : mX} {l : Launch} {M : mM} {x : Int32} (hS : Shp M) (h0 : ¬ x = 0) (h1 : ¬ x = 1) {a b z : Int32} : Ct X l uLink_header (rk 2 43) [.ref 3, .int x, .int a, .int b, .int z] M (fun r M' => r = some (.int (-1)) ∧ M' = M) := by
  refine Ct.of (by decide) (Nat.le_of_ble_eq_true rfl) ?_
  show G X l uLink_header (rk 2 43) 0 0 M 0 [some (.ref 3), some (.int x), some (.int a), some (.int b), some (.int z), none] [] _
  refine g_aload_n 0 dLink_header_0 rfl ?_
  refine g_iload_n 1 dLink_header_1 rfl ?_
  refine g_callV 2 [_] dLink_header_2 cs_Link_21 rfl (ci := 0) rfl (by decide) hS.link rfl ⟨(Nat.le_of_ble_eq_true rfl), (Nat.le_of_ble_eq_true rfl)⟩ (Nat.le_of_ble_eq_true rfl) (ct_upEndOf_no hS h0 h1) (Nat.le_of_ble_eq_true rfl) (Nat.le_of_ble_eq_true rfl) ?_
  rintro _ M2 ⟨rfl, hM2⟩
  rw [hM2]
  clear hM2 M2
  refine g_astoreN 5 dLink_header_5 (by decide) rfl ?_
  refine g_aloadN 7 dLink_header_7 rfl ?_
  refine g_ifnullN 9 35 dLink_header_9 rfl ?_
  refine g_iconst 35 (-1) dLink_header_35 rfl ?_
  exact g_iret 36 dLink_header_36 rfl ⟨rfl, rfl⟩

set_option maxRecDepth 100000 in
set_option maxHeartbeats 4000000 in
theorem ct_Link_header_dn {X : mX} {l : Launch} {M : mM} {e : Nat} (hS : Shp M) (he : e < 2) (hu : ¬ Kdown M e = 0) {a b z : Int32} : Ct X l uLink_header (rk 2 43) [.ref 3, .int (nI e), .int a, .int b, .int z] M (fun r M' => r = some (.int (-1)) ∧ M' = M) := by
  refine Ct.of (by decide) (Nat.le_of_ble_eq_true rfl) ?_
  show G X l uLink_header (rk 2 43) 0 0 M 0 [some (.ref 3), some (.int (nI e)), some (.int a), some (.int b), some (.int z), none] [] _
  refine g_aload_n 0 dLink_header_0 rfl ?_
  refine g_iload_n 1 dLink_header_1 rfl ?_
  refine g_callV 2 [_] dLink_header_2 cs_Link_21 rfl (ci := 0) rfl (by decide) hS.link rfl ⟨(Nat.le_of_ble_eq_true rfl), (Nat.le_of_ble_eq_true rfl)⟩ (Nat.le_of_ble_eq_true rfl) (ct_upEndOf_dn hS he hu) (Nat.le_of_ble_eq_true rfl) (Nat.le_of_ble_eq_true rfl) ?_
  rintro _ M2 ⟨rfl, hM2⟩
  rw [hM2]
  clear hM2 M2
  refine g_astoreN 5 dLink_header_5 (by decide) rfl ?_
  refine g_aloadN 7 dLink_header_7 rfl ?_
  refine g_ifnullN 9 35 dLink_header_9 rfl ?_
  refine g_iconst 35 (-1) dLink_header_35 rfl ?_
  exact g_iret 36 dLink_header_36 rfl ⟨rfl, rfl⟩

set_option maxRecDepth 100000 in
set_option maxHeartbeats 4000000 in
theorem ct_Link_header_bad {X : mX} {l : Launch} {M : mM} {e : Nat} (hS : Shp M) (he : e < 2) (hu : Kdown M e = 0) {a b z : Int32} (ha : wi a 0 15 = 0) : Ct X l uLink_header (rk 2 43) [.ref 3, .int (nI e), .int a, .int b, .int z] M (fun r M' => r = some (.int (-1)) ∧ M' = M) := by
  refine Ct.of (by decide) (Nat.le_of_ble_eq_true rfl) ?_
  show G X l uLink_header (rk 2 43) 0 0 M 0 [some (.ref 3), some (.int (nI e)), some (.int a), some (.int b), some (.int z), none] [] _
  refine g_aload_n 0 dLink_header_0 rfl ?_
  refine g_iload_n 1 dLink_header_1 rfl ?_
  refine g_callV 2 [_] dLink_header_2 cs_Link_21 rfl (ci := 0) rfl (by decide) hS.link rfl ⟨(Nat.le_of_ble_eq_true rfl), (Nat.le_of_ble_eq_true rfl)⟩ (Nat.le_of_ble_eq_true rfl) (ct_upEndOf hS he hu) (Nat.le_of_ble_eq_true rfl) (Nat.le_of_ble_eq_true rfl) ?_
  rintro _ M2 ⟨rfl, hM2⟩
  rw [hM2]
  clear hM2 M2
  refine g_astore 5 dLink_header_5 (by decide) rfl ?_
  refine g_aload 7 dLink_header_7 rfl ?_
  refine g_ifnull 9 dLink_header_9 ?_
  refine g_iload_n 12 dLink_header_12 rfl ?_
  refine g_iconst 13 0 dLink_header_13 rfl ?_
  refine g_bipush 14 15 dLink_header_14 rfl ?_
  refine g_callS 16 [_, _, _] dLink_header_16 cs_Link_25 rfl rfl ⟨(Nat.le_of_ble_eq_true rfl), (Nat.le_of_ble_eq_true rfl)⟩ (Nat.le_of_ble_eq_true rfl) (ct_isWithin) (Nat.le_of_ble_eq_true rfl) (Nat.le_of_ble_eq_true rfl) ?_
  rintro _ M2 ⟨rfl, hM2⟩
  rw [hM2]
  clear hM2 M2
  refine g_if_eq 19 35 dLink_header_19 rfl (fun h19 => ?_) (fun h19 => ?_)
  · refine g_iconst 35 (-1) dLink_header_35 rfl ?_
    exact g_iret 36 dLink_header_36 rfl ⟨rfl, rfl⟩
  · exact absurd ha h19

set_option maxRecDepth 100000 in
set_option maxHeartbeats 4000000 in
theorem ct_Link_header_full {X : mX} {l : Launch} {M : mM} {e : Nat} (hS : Shp M) (he : e < 2) (hu : Kdown M e = 0) {a b z : Int32} (hc : ¬ mI M (10 + 80 * e) 3 < 6) : Ct X l uLink_header (rk 2 43) [.ref 3, .int (nI e), .int a, .int b, .int z] M (fun r M' => r = some (.int (-1)) ∧ M' = M) := by
  refine Ct.of (by decide) (Nat.le_of_ble_eq_true rfl) ?_
  show G X l uLink_header (rk 2 43) 0 0 M 0 [some (.ref 3), some (.int (nI e)), some (.int a), some (.int b), some (.int z), none] [] _
  refine g_aload_n 0 dLink_header_0 rfl ?_
  refine g_iload_n 1 dLink_header_1 rfl ?_
  refine g_callV 2 [_] dLink_header_2 cs_Link_21 rfl (ci := 0) rfl (by decide) hS.link rfl ⟨(Nat.le_of_ble_eq_true rfl), (Nat.le_of_ble_eq_true rfl)⟩ (Nat.le_of_ble_eq_true rfl) (ct_upEndOf hS he hu) (Nat.le_of_ble_eq_true rfl) (Nat.le_of_ble_eq_true rfl) ?_
  rintro _ M2 ⟨rfl, hM2⟩
  rw [hM2]
  clear hM2 M2
  refine g_astore 5 dLink_header_5 (by decide) rfl ?_
  refine g_aload 7 dLink_header_7 rfl ?_
  refine g_ifnull 9 dLink_header_9 ?_
  refine g_iload_n 12 dLink_header_12 rfl ?_
  refine g_iconst 13 0 dLink_header_13 rfl ?_
  refine g_bipush 14 15 dLink_header_14 rfl ?_
  refine g_callS 16 [_, _, _] dLink_header_16 cs_Link_25 rfl rfl ⟨(Nat.le_of_ble_eq_true rfl), (Nat.le_of_ble_eq_true rfl)⟩ (Nat.le_of_ble_eq_true rfl) (ct_isWithin) (Nat.le_of_ble_eq_true rfl) (Nat.le_of_ble_eq_true rfl) ?_
  rintro _ M2 ⟨rfl, hM2⟩
  rw [hM2]
  clear hM2 M2
  refine g_if_eq 19 35 dLink_header_19 rfl (fun h19 => ?_) (fun h19 => ?_)
  · refine g_iconst 35 (-1) dLink_header_35 rfl ?_
    exact g_iret 36 dLink_header_36 rfl ⟨rfl, rfl⟩
  · refine g_aload 22 dLink_header_22 rfl ?_
    refine g_getr 24 2 6 dLink_header_24 fs_Link_29 rfl (hS.tEnd he) (hS.rEnd6 he) ?_
    refine g_geti 27 3 3 dLink_header_27 fs_Link_33 rfl (hS.tFL he) ?_
    refine g_bipush 30 6 dLink_header_30 rfl ?_
    refine g_icmp_lt 32 37 dLink_header_32 rfl (fun h32 => ?_) (fun h32 => ?_)
    · exact absurd h32 hc
    · refine g_iconst 35 (-1) dLink_header_35 rfl ?_
      exact g_iret 36 dLink_header_36 rfl ⟨rfl, rfl⟩

set_option maxRecDepth 100000 in
set_option maxHeartbeats 4000000 in
theorem ct_Link_pump_no {X : mX} {l : Launch} {M : mM} {x : Int32} (hS : Shp M) (h0 : ¬ x = 0) (h1 : ¬ x = 1) {n : Int32} : Ct X l uLink_pump (rk 5 132) [.ref 3, .int x, .int n] M (fun r M' => r = some (.int (-1)) ∧ M' = M) := by
  refine Ct.of (by decide) (Nat.le_of_ble_eq_true rfl) ?_
  show G X l uLink_pump (rk 5 132) 0 0 M 0 [some (.ref 3), some (.int x), some (.int n), none] [] _
  refine g_aload_n 0 dLink_pump_0 rfl ?_
  refine g_iload_n 1 dLink_pump_1 rfl ?_
  refine g_callV 2 [_] dLink_pump_2 cs_Link_21 rfl (ci := 0) rfl (by decide) hS.link rfl ⟨(Nat.le_of_ble_eq_true rfl), (Nat.le_of_ble_eq_true rfl)⟩ (Nat.le_of_ble_eq_true rfl) (ct_upEndOf_no hS h0 h1) (Nat.le_of_ble_eq_true rfl) (Nat.le_of_ble_eq_true rfl) ?_
  rintro _ M2 ⟨rfl, hM2⟩
  rw [hM2]
  clear hM2 M2
  refine g_astore_nN 5 dLink_pump_5 (by decide) rfl ?_
  refine g_aload_nN 6 dLink_pump_6 rfl ?_
  refine g_ifnullN 7 20 dLink_pump_7 rfl ?_
  refine g_iconst 20 (-1) dLink_pump_20 rfl ?_
  exact g_iret 21 dLink_pump_21 rfl ⟨rfl, rfl⟩

set_option maxRecDepth 100000 in
set_option maxHeartbeats 4000000 in
theorem ct_Link_pump_dn {X : mX} {l : Launch} {M : mM} {e : Nat} (hS : Shp M) (he : e < 2) (hu : ¬ Kdown M e = 0) {n : Int32} : Ct X l uLink_pump (rk 5 132) [.ref 3, .int (nI e), .int n] M (fun r M' => r = some (.int (-1)) ∧ M' = M) := by
  refine Ct.of (by decide) (Nat.le_of_ble_eq_true rfl) ?_
  show G X l uLink_pump (rk 5 132) 0 0 M 0 [some (.ref 3), some (.int (nI e)), some (.int n), none] [] _
  refine g_aload_n 0 dLink_pump_0 rfl ?_
  refine g_iload_n 1 dLink_pump_1 rfl ?_
  refine g_callV 2 [_] dLink_pump_2 cs_Link_21 rfl (ci := 0) rfl (by decide) hS.link rfl ⟨(Nat.le_of_ble_eq_true rfl), (Nat.le_of_ble_eq_true rfl)⟩ (Nat.le_of_ble_eq_true rfl) (ct_upEndOf_dn hS he hu) (Nat.le_of_ble_eq_true rfl) (Nat.le_of_ble_eq_true rfl) ?_
  rintro _ M2 ⟨rfl, hM2⟩
  rw [hM2]
  clear hM2 M2
  refine g_astore_nN 5 dLink_pump_5 (by decide) rfl ?_
  refine g_aload_nN 6 dLink_pump_6 rfl ?_
  refine g_ifnullN 7 20 dLink_pump_7 rfl ?_
  refine g_iconst 20 (-1) dLink_pump_20 rfl ?_
  exact g_iret 21 dLink_pump_21 rfl ⟨rfl, rfl⟩

set_option maxRecDepth 100000 in
set_option maxHeartbeats 4000000 in
theorem ct_Link_pump_bad {X : mX} {l : Launch} {M : mM} {e : Nat} (hS : Shp M) (he : e < 2) (hu : Kdown M e = 0) {n : Int32} (hn : wi n 1 8 = 0) : Ct X l uLink_pump (rk 5 132) [.ref 3, .int (nI e), .int n] M (fun r M' => r = some (.int (-1)) ∧ M' = M) := by
  refine Ct.of (by decide) (Nat.le_of_ble_eq_true rfl) ?_
  show G X l uLink_pump (rk 5 132) 0 0 M 0 [some (.ref 3), some (.int (nI e)), some (.int n), none] [] _
  refine g_aload_n 0 dLink_pump_0 rfl ?_
  refine g_iload_n 1 dLink_pump_1 rfl ?_
  refine g_callV 2 [_] dLink_pump_2 cs_Link_21 rfl (ci := 0) rfl (by decide) hS.link rfl ⟨(Nat.le_of_ble_eq_true rfl), (Nat.le_of_ble_eq_true rfl)⟩ (Nat.le_of_ble_eq_true rfl) (ct_upEndOf hS he hu) (Nat.le_of_ble_eq_true rfl) (Nat.le_of_ble_eq_true rfl) ?_
  rintro _ M2 ⟨rfl, hM2⟩
  rw [hM2]
  clear hM2 M2
  refine g_astore_n 5 dLink_pump_5 (by decide) rfl ?_
  refine g_aload_n 6 dLink_pump_6 rfl ?_
  refine g_ifnull 7 dLink_pump_7 ?_
  refine g_iload_n 10 dLink_pump_10 rfl ?_
  refine g_iconst 11 1 dLink_pump_11 rfl ?_
  refine g_bipush 12 8 dLink_pump_12 rfl ?_
  refine g_callS 14 [_, _, _] dLink_pump_14 cs_Link_25 rfl rfl ⟨(Nat.le_of_ble_eq_true rfl), (Nat.le_of_ble_eq_true rfl)⟩ (Nat.le_of_ble_eq_true rfl) (ct_isWithin) (Nat.le_of_ble_eq_true rfl) (Nat.le_of_ble_eq_true rfl) ?_
  rintro _ M2 ⟨rfl, hM2⟩
  rw [hM2]
  clear hM2 M2
  refine g_if_ne 17 22 dLink_pump_17 rfl (fun h17 => ?_) (fun h17 => ?_)
  · exact absurd hn h17
  · refine g_iconst 20 (-1) dLink_pump_20 rfl ?_
    exact g_iret 21 dLink_pump_21 rfl ⟨rfl, rfl⟩

set_option maxRecDepth 100000 in
set_option maxHeartbeats 4000000 in
theorem ct_Link_write_no {X : mX} {l : Launch} {M : mM} {x : Int32} (hS : Shp M) (h0 : ¬ x = 0) (h1 : ¬ x = 1) {y n z : Int32} {b : Int64} : Ct X l uLink_write (rk 3 64) [.ref 3, .int x, .int y, .long b, .int n, .int z] M (fun r M' => r = some (.int (-1)) ∧ M' = M) := by
  refine Ct.of (by decide) (Nat.le_of_ble_eq_true rfl) ?_
  show G X l uLink_write (rk 3 64) 0 0 M 0 [some (.ref 3), some (.int x), some (.int y), some (.long b), none, some (.int n), some (.int z), none] [] _
  refine g_aload_n 0 dLink_write_0 rfl ?_
  refine g_iload_n 1 dLink_write_1 rfl ?_
  refine g_callV 2 [_] dLink_write_2 cs_Link_21 rfl (ci := 0) rfl (by decide) hS.link rfl ⟨(Nat.le_of_ble_eq_true rfl), (Nat.le_of_ble_eq_true rfl)⟩ (Nat.le_of_ble_eq_true rfl) (ct_upEndOf_no hS h0 h1) (Nat.le_of_ble_eq_true rfl) (Nat.le_of_ble_eq_true rfl) ?_
  rintro _ M2 ⟨rfl, hM2⟩
  rw [hM2]
  clear hM2 M2
  refine g_iload_n 5 dLink_write_5 rfl ?_
  refine g_callS 6 [_, _] dLink_write_6 cs_Link_58 rfl rfl ⟨(Nat.le_of_ble_eq_true rfl), (Nat.le_of_ble_eq_true rfl)⟩ (Nat.le_of_ble_eq_true rfl) (ct_streamOf_N) (Nat.le_of_ble_eq_true rfl) (Nat.le_of_ble_eq_true rfl) ?_
  rintro _ M2 ⟨rfl, hM2⟩
  rw [hM2]
  clear hM2 M2
  refine g_astoreN 9 dLink_write_9 (by decide) rfl ?_
  refine g_aloadN 11 dLink_write_11 rfl ?_
  refine g_ifnullN 13 40 dLink_write_13 rfl ?_
  refine g_iconst 40 (-1) dLink_write_40 rfl ?_
  exact g_iret 41 dLink_write_41 rfl ⟨rfl, rfl⟩

set_option maxRecDepth 100000 in
set_option maxHeartbeats 4000000 in
theorem ct_Link_write_dn {X : mX} {l : Launch} {M : mM} {e : Nat} (hS : Shp M) (he : e < 2) (hu : ¬ Kdown M e = 0) {y n z : Int32} {b : Int64} : Ct X l uLink_write (rk 3 64) [.ref 3, .int (nI e), .int y, .long b, .int n, .int z] M (fun r M' => r = some (.int (-1)) ∧ M' = M) := by
  refine Ct.of (by decide) (Nat.le_of_ble_eq_true rfl) ?_
  show G X l uLink_write (rk 3 64) 0 0 M 0 [some (.ref 3), some (.int (nI e)), some (.int y), some (.long b), none, some (.int n), some (.int z), none] [] _
  refine g_aload_n 0 dLink_write_0 rfl ?_
  refine g_iload_n 1 dLink_write_1 rfl ?_
  refine g_callV 2 [_] dLink_write_2 cs_Link_21 rfl (ci := 0) rfl (by decide) hS.link rfl ⟨(Nat.le_of_ble_eq_true rfl), (Nat.le_of_ble_eq_true rfl)⟩ (Nat.le_of_ble_eq_true rfl) (ct_upEndOf_dn hS he hu) (Nat.le_of_ble_eq_true rfl) (Nat.le_of_ble_eq_true rfl) ?_
  rintro _ M2 ⟨rfl, hM2⟩
  rw [hM2]
  clear hM2 M2
  refine g_iload_n 5 dLink_write_5 rfl ?_
  refine g_callS 6 [_, _] dLink_write_6 cs_Link_58 rfl rfl ⟨(Nat.le_of_ble_eq_true rfl), (Nat.le_of_ble_eq_true rfl)⟩ (Nat.le_of_ble_eq_true rfl) (ct_streamOf_N) (Nat.le_of_ble_eq_true rfl) (Nat.le_of_ble_eq_true rfl) ?_
  rintro _ M2 ⟨rfl, hM2⟩
  rw [hM2]
  clear hM2 M2
  refine g_astoreN 9 dLink_write_9 (by decide) rfl ?_
  refine g_aloadN 11 dLink_write_11 rfl ?_
  refine g_ifnullN 13 40 dLink_write_13 rfl ?_
  refine g_iconst 40 (-1) dLink_write_40 rfl ?_
  exact g_iret 41 dLink_write_41 rfl ⟨rfl, rfl⟩

set_option maxRecDepth 100000 in
set_option maxHeartbeats 4000000 in
theorem ct_Link_write_ns {X : mX} {l : Launch} {M : mM} {e : Nat} (hS : Shp M) (he : e < 2) (hu : Kdown M e = 0) {y n z : Int32} {b : Int64} (hx : ¬ isStr y) : Ct X l uLink_write (rk 3 64) [.ref 3, .int (nI e), .int y, .long b, .int n, .int z] M (fun r M' => r = some (.int (-1)) ∧ M' = M) := by
  refine Ct.of (by decide) (Nat.le_of_ble_eq_true rfl) ?_
  show G X l uLink_write (rk 3 64) 0 0 M 0 [some (.ref 3), some (.int (nI e)), some (.int y), some (.long b), none, some (.int n), some (.int z), none] [] _
  refine g_aload_n 0 dLink_write_0 rfl ?_
  refine g_iload_n 1 dLink_write_1 rfl ?_
  refine g_callV 2 [_] dLink_write_2 cs_Link_21 rfl (ci := 0) rfl (by decide) hS.link rfl ⟨(Nat.le_of_ble_eq_true rfl), (Nat.le_of_ble_eq_true rfl)⟩ (Nat.le_of_ble_eq_true rfl) (ct_upEndOf hS he hu) (Nat.le_of_ble_eq_true rfl) (Nat.le_of_ble_eq_true rfl) ?_
  rintro _ M2 ⟨rfl, hM2⟩
  rw [hM2]
  clear hM2 M2
  refine g_iload_n 5 dLink_write_5 rfl ?_
  refine g_callS 6 [_, _] dLink_write_6 cs_Link_58 rfl rfl ⟨(Nat.le_of_ble_eq_true rfl), (Nat.le_of_ble_eq_true rfl)⟩ (Nat.le_of_ble_eq_true rfl) (ct_streamOf_no hS he hx) (Nat.le_of_ble_eq_true rfl) (Nat.le_of_ble_eq_true rfl) ?_
  rintro _ M2 ⟨rfl, hM2⟩
  rw [hM2]
  clear hM2 M2
  refine g_astoreN 9 dLink_write_9 (by decide) rfl ?_
  refine g_aloadN 11 dLink_write_11 rfl ?_
  refine g_ifnullN 13 40 dLink_write_13 rfl ?_
  refine g_iconst 40 (-1) dLink_write_40 rfl ?_
  exact g_iret 41 dLink_write_41 rfl ⟨rfl, rfl⟩

set_option maxRecDepth 100000 in
set_option maxHeartbeats 4000000 in
theorem ct_Link_write_st {X : mX} {l : Launch} {M : mM} {e k : Nat} (hS : Shp M) (he : e < 2) (hk : k < 12) (hu : Kdown M e = 0) {n z : Int32} {b : Int64} (hm : msC M e k = 0) : Ct X l uLink_write (rk 3 64) [.ref 3, .int (nI e), .int (nI (2 * k + 1)), .long b, .int n, .int z] M (fun r M' => r = some (.int (-1)) ∧ M' = M) := by
  refine Ct.of (by decide) (Nat.le_of_ble_eq_true rfl) ?_
  show G X l uLink_write (rk 3 64) 0 0 M 0 [some (.ref 3), some (.int (nI e)), some (.int (nI (2 * k + 1))), some (.long b), none, some (.int n), some (.int z), none] [] _
  refine g_aload_n 0 dLink_write_0 rfl ?_
  refine g_iload_n 1 dLink_write_1 rfl ?_
  refine g_callV 2 [_] dLink_write_2 cs_Link_21 rfl (ci := 0) rfl (by decide) hS.link rfl ⟨(Nat.le_of_ble_eq_true rfl), (Nat.le_of_ble_eq_true rfl)⟩ (Nat.le_of_ble_eq_true rfl) (ct_upEndOf hS he hu) (Nat.le_of_ble_eq_true rfl) (Nat.le_of_ble_eq_true rfl) ?_
  rintro _ M2 ⟨rfl, hM2⟩
  rw [hM2]
  clear hM2 M2
  refine g_iload_n 5 dLink_write_5 rfl ?_
  refine g_callS 6 [_, _] dLink_write_6 cs_Link_58 rfl rfl ⟨(Nat.le_of_ble_eq_true rfl), (Nat.le_of_ble_eq_true rfl)⟩ (Nat.le_of_ble_eq_true rfl) (ct_streamOf hS he hk) (Nat.le_of_ble_eq_true rfl) (Nat.le_of_ble_eq_true rfl) ?_
  rintro _ M2 ⟨rfl, hM2⟩
  rw [hM2]
  clear hM2 M2
  refine g_astore 9 dLink_write_9 (by decide) rfl ?_
  refine g_aload 11 dLink_write_11 rfl ?_
  refine g_ifnull 13 dLink_write_13 ?_
  refine g_aload 16 dLink_write_16 rfl ?_
  refine g_callV 18 [] dLink_write_18 cs_Link_62 rfl (ci := 8) rfl (by decide) (hS.tStr he hk) rfl ⟨(Nat.le_of_ble_eq_true rfl), (Nat.le_of_ble_eq_true rfl)⟩ (Nat.le_of_ble_eq_true rfl) (ct_Str_maySend hS he hk) (Nat.le_of_ble_eq_true rfl) (Nat.le_of_ble_eq_true rfl) ?_
  rintro _ M2 ⟨rfl, hM2⟩
  rw [hM2]
  clear hM2 M2
  refine g_if_eq 21 40 dLink_write_21 rfl (fun h21 => ?_) (fun h21 => ?_)
  · refine g_iconst 40 (-1) dLink_write_40 rfl ?_
    exact g_iret 41 dLink_write_41 rfl ⟨rfl, rfl⟩
  · exact absurd hm h21

set_option maxRecDepth 100000 in
set_option maxHeartbeats 4000000 in
theorem ct_Link_read_no {X : mX} {l : Launch} {M : mM} {x : Int32} (hS : Shp M) (h0 : ¬ x = 0) (h1 : ¬ x = 1) {y n : Int32} : Ct X l uLink_read (rk 5 111) [.ref 3, .int x, .int y, .int n] M (fun r M' => r = some (.long (-1)) ∧ M' = M) := by
  refine Ct.of (by decide) (Nat.le_of_ble_eq_true rfl) ?_
  show G X l uLink_read (rk 5 111) 0 0 M 0 [some (.ref 3), some (.int x), some (.int y), some (.int n), none, none] [] _
  refine g_aload_n 0 dLink_read_0 rfl ?_
  refine g_iload_n 1 dLink_read_1 rfl ?_
  refine g_callV 2 [_] dLink_read_2 cs_Link_21 rfl (ci := 0) rfl (by decide) hS.link rfl ⟨(Nat.le_of_ble_eq_true rfl), (Nat.le_of_ble_eq_true rfl)⟩ (Nat.le_of_ble_eq_true rfl) (ct_upEndOf_no hS h0 h1) (Nat.le_of_ble_eq_true rfl) (Nat.le_of_ble_eq_true rfl) ?_
  rintro _ M2 ⟨rfl, hM2⟩
  rw [hM2]
  clear hM2 M2
  refine g_astoreN 5 dLink_read_5 (by decide) rfl ?_
  refine g_aloadN 7 dLink_read_7 rfl ?_
  refine g_iload_n 9 dLink_read_9 rfl ?_
  refine g_callS 10 [_, _] dLink_read_10 cs_Link_58 rfl rfl ⟨(Nat.le_of_ble_eq_true rfl), (Nat.le_of_ble_eq_true rfl)⟩ (Nat.le_of_ble_eq_true rfl) (ct_streamOf_N) (Nat.le_of_ble_eq_true rfl) (Nat.le_of_ble_eq_true rfl) ?_
  rintro _ M2 ⟨rfl, hM2⟩
  rw [hM2]
  clear hM2 M2
  refine g_astoreN 13 dLink_read_13 (by decide) rfl ?_
  refine g_aloadN 15 dLink_read_15 rfl ?_
  refine g_ifnullN 17 43 dLink_read_17 rfl ?_
  refine g_ldc2 43 (-1) dLink_read_43 lc_Link_96 ?_
  exact g_lret 46 dLink_read_46 rfl ⟨rfl, rfl⟩

set_option maxRecDepth 100000 in
set_option maxHeartbeats 4000000 in
theorem ct_Link_read_dn {X : mX} {l : Launch} {M : mM} {e : Nat} (hS : Shp M) (he : e < 2) (hu : ¬ Kdown M e = 0) {y n : Int32} : Ct X l uLink_read (rk 5 111) [.ref 3, .int (nI e), .int y, .int n] M (fun r M' => r = some (.long (-1)) ∧ M' = M) := by
  refine Ct.of (by decide) (Nat.le_of_ble_eq_true rfl) ?_
  show G X l uLink_read (rk 5 111) 0 0 M 0 [some (.ref 3), some (.int (nI e)), some (.int y), some (.int n), none, none] [] _
  refine g_aload_n 0 dLink_read_0 rfl ?_
  refine g_iload_n 1 dLink_read_1 rfl ?_
  refine g_callV 2 [_] dLink_read_2 cs_Link_21 rfl (ci := 0) rfl (by decide) hS.link rfl ⟨(Nat.le_of_ble_eq_true rfl), (Nat.le_of_ble_eq_true rfl)⟩ (Nat.le_of_ble_eq_true rfl) (ct_upEndOf_dn hS he hu) (Nat.le_of_ble_eq_true rfl) (Nat.le_of_ble_eq_true rfl) ?_
  rintro _ M2 ⟨rfl, hM2⟩
  rw [hM2]
  clear hM2 M2
  refine g_astoreN 5 dLink_read_5 (by decide) rfl ?_
  refine g_aloadN 7 dLink_read_7 rfl ?_
  refine g_iload_n 9 dLink_read_9 rfl ?_
  refine g_callS 10 [_, _] dLink_read_10 cs_Link_58 rfl rfl ⟨(Nat.le_of_ble_eq_true rfl), (Nat.le_of_ble_eq_true rfl)⟩ (Nat.le_of_ble_eq_true rfl) (ct_streamOf_N) (Nat.le_of_ble_eq_true rfl) (Nat.le_of_ble_eq_true rfl) ?_
  rintro _ M2 ⟨rfl, hM2⟩
  rw [hM2]
  clear hM2 M2
  refine g_astoreN 13 dLink_read_13 (by decide) rfl ?_
  refine g_aloadN 15 dLink_read_15 rfl ?_
  refine g_ifnullN 17 43 dLink_read_17 rfl ?_
  refine g_ldc2 43 (-1) dLink_read_43 lc_Link_96 ?_
  exact g_lret 46 dLink_read_46 rfl ⟨rfl, rfl⟩

set_option maxRecDepth 100000 in
set_option maxHeartbeats 4000000 in
theorem ct_Link_read_ns {X : mX} {l : Launch} {M : mM} {e : Nat} (hS : Shp M) (he : e < 2) (hu : Kdown M e = 0) {y n : Int32} (hx : ¬ isStr y) : Ct X l uLink_read (rk 5 111) [.ref 3, .int (nI e), .int y, .int n] M (fun r M' => r = some (.long (-1)) ∧ M' = M) := by
  refine Ct.of (by decide) (Nat.le_of_ble_eq_true rfl) ?_
  show G X l uLink_read (rk 5 111) 0 0 M 0 [some (.ref 3), some (.int (nI e)), some (.int y), some (.int n), none, none] [] _
  refine g_aload_n 0 dLink_read_0 rfl ?_
  refine g_iload_n 1 dLink_read_1 rfl ?_
  refine g_callV 2 [_] dLink_read_2 cs_Link_21 rfl (ci := 0) rfl (by decide) hS.link rfl ⟨(Nat.le_of_ble_eq_true rfl), (Nat.le_of_ble_eq_true rfl)⟩ (Nat.le_of_ble_eq_true rfl) (ct_upEndOf hS he hu) (Nat.le_of_ble_eq_true rfl) (Nat.le_of_ble_eq_true rfl) ?_
  rintro _ M2 ⟨rfl, hM2⟩
  rw [hM2]
  clear hM2 M2
  refine g_astore 5 dLink_read_5 (by decide) rfl ?_
  refine g_aload 7 dLink_read_7 rfl ?_
  refine g_iload_n 9 dLink_read_9 rfl ?_
  refine g_callS 10 [_, _] dLink_read_10 cs_Link_58 rfl rfl ⟨(Nat.le_of_ble_eq_true rfl), (Nat.le_of_ble_eq_true rfl)⟩ (Nat.le_of_ble_eq_true rfl) (ct_streamOf_no hS he hx) (Nat.le_of_ble_eq_true rfl) (Nat.le_of_ble_eq_true rfl) ?_
  rintro _ M2 ⟨rfl, hM2⟩
  rw [hM2]
  clear hM2 M2
  refine g_astoreN 13 dLink_read_13 (by decide) rfl ?_
  refine g_aload 15 dLink_read_15 rfl ?_
  refine g_ifnull 17 dLink_read_17 ?_
  refine g_aloadN 20 dLink_read_20 rfl ?_
  refine g_ifnullN 22 43 dLink_read_22 rfl ?_
  refine g_ldc2 43 (-1) dLink_read_43 lc_Link_96 ?_
  exact g_lret 46 dLink_read_46 rfl ⟨rfl, rfl⟩

set_option maxRecDepth 100000 in
set_option maxHeartbeats 4000000 in
theorem ct_Link_reset_no {X : mX} {l : Launch} {M : mM} {x : Int32} (hS : Shp M) (h0 : ¬ x = 0) (h1 : ¬ x = 1) {y n : Int32} : Ct X l uLink_reset (rk 5 104) [.ref 3, .int x, .int y, .int n] M (fun r M' => r = some (.int 0) ∧ M' = M) := by
  refine Ct.of (by decide) (Nat.le_of_ble_eq_true rfl) ?_
  show G X l uLink_reset (rk 5 104) 0 0 M 0 [some (.ref 3), some (.int x), some (.int y), some (.int n), none, none] [] _
  refine g_aload_n 0 dLink_reset_0 rfl ?_
  refine g_iload_n 1 dLink_reset_1 rfl ?_
  refine g_callV 2 [_] dLink_reset_2 cs_Link_21 rfl (ci := 0) rfl (by decide) hS.link rfl ⟨(Nat.le_of_ble_eq_true rfl), (Nat.le_of_ble_eq_true rfl)⟩ (Nat.le_of_ble_eq_true rfl) (ct_upEndOf_no hS h0 h1) (Nat.le_of_ble_eq_true rfl) (Nat.le_of_ble_eq_true rfl) ?_
  rintro _ M2 ⟨rfl, hM2⟩
  rw [hM2]
  clear hM2 M2
  refine g_astoreN 5 dLink_reset_5 (by decide) rfl ?_
  refine g_aloadN 7 dLink_reset_7 rfl ?_
  refine g_iload_n 9 dLink_reset_9 rfl ?_
  refine g_callS 10 [_, _] dLink_reset_10 cs_Link_58 rfl rfl ⟨(Nat.le_of_ble_eq_true rfl), (Nat.le_of_ble_eq_true rfl)⟩ (Nat.le_of_ble_eq_true rfl) (ct_streamOf_N) (Nat.le_of_ble_eq_true rfl) (Nat.le_of_ble_eq_true rfl) ?_
  rintro _ M2 ⟨rfl, hM2⟩
  rw [hM2]
  clear hM2 M2
  refine g_astoreN 13 dLink_reset_13 (by decide) rfl ?_
  refine g_aloadN 15 dLink_reset_15 rfl ?_
  refine g_ifnullN 17 43 dLink_reset_17 rfl ?_
  refine g_iconst 43 0 dLink_reset_43 rfl ?_
  exact g_zret 44 dLink_reset_44 rfl (by decide) ⟨rfl, rfl⟩

set_option maxRecDepth 100000 in
set_option maxHeartbeats 4000000 in
theorem ct_Link_reset_dn {X : mX} {l : Launch} {M : mM} {e : Nat} (hS : Shp M) (he : e < 2) (hu : ¬ Kdown M e = 0) {y n : Int32} : Ct X l uLink_reset (rk 5 104) [.ref 3, .int (nI e), .int y, .int n] M (fun r M' => r = some (.int 0) ∧ M' = M) := by
  refine Ct.of (by decide) (Nat.le_of_ble_eq_true rfl) ?_
  show G X l uLink_reset (rk 5 104) 0 0 M 0 [some (.ref 3), some (.int (nI e)), some (.int y), some (.int n), none, none] [] _
  refine g_aload_n 0 dLink_reset_0 rfl ?_
  refine g_iload_n 1 dLink_reset_1 rfl ?_
  refine g_callV 2 [_] dLink_reset_2 cs_Link_21 rfl (ci := 0) rfl (by decide) hS.link rfl ⟨(Nat.le_of_ble_eq_true rfl), (Nat.le_of_ble_eq_true rfl)⟩ (Nat.le_of_ble_eq_true rfl) (ct_upEndOf_dn hS he hu) (Nat.le_of_ble_eq_true rfl) (Nat.le_of_ble_eq_true rfl) ?_
  rintro _ M2 ⟨rfl, hM2⟩
  rw [hM2]
  clear hM2 M2
  refine g_astoreN 5 dLink_reset_5 (by decide) rfl ?_
  refine g_aloadN 7 dLink_reset_7 rfl ?_
  refine g_iload_n 9 dLink_reset_9 rfl ?_
  refine g_callS 10 [_, _] dLink_reset_10 cs_Link_58 rfl rfl ⟨(Nat.le_of_ble_eq_true rfl), (Nat.le_of_ble_eq_true rfl)⟩ (Nat.le_of_ble_eq_true rfl) (ct_streamOf_N) (Nat.le_of_ble_eq_true rfl) (Nat.le_of_ble_eq_true rfl) ?_
  rintro _ M2 ⟨rfl, hM2⟩
  rw [hM2]
  clear hM2 M2
  refine g_astoreN 13 dLink_reset_13 (by decide) rfl ?_
  refine g_aloadN 15 dLink_reset_15 rfl ?_
  refine g_ifnullN 17 43 dLink_reset_17 rfl ?_
  refine g_iconst 43 0 dLink_reset_43 rfl ?_
  exact g_zret 44 dLink_reset_44 rfl (by decide) ⟨rfl, rfl⟩

set_option maxRecDepth 100000 in
set_option maxHeartbeats 4000000 in
theorem ct_Link_reset_ns {X : mX} {l : Launch} {M : mM} {e : Nat} (hS : Shp M) (he : e < 2) (hu : Kdown M e = 0) {y n : Int32} (hx : ¬ isStr y) : Ct X l uLink_reset (rk 5 104) [.ref 3, .int (nI e), .int y, .int n] M (fun r M' => r = some (.int 0) ∧ M' = M) := by
  refine Ct.of (by decide) (Nat.le_of_ble_eq_true rfl) ?_
  show G X l uLink_reset (rk 5 104) 0 0 M 0 [some (.ref 3), some (.int (nI e)), some (.int y), some (.int n), none, none] [] _
  refine g_aload_n 0 dLink_reset_0 rfl ?_
  refine g_iload_n 1 dLink_reset_1 rfl ?_
  refine g_callV 2 [_] dLink_reset_2 cs_Link_21 rfl (ci := 0) rfl (by decide) hS.link rfl ⟨(Nat.le_of_ble_eq_true rfl), (Nat.le_of_ble_eq_true rfl)⟩ (Nat.le_of_ble_eq_true rfl) (ct_upEndOf hS he hu) (Nat.le_of_ble_eq_true rfl) (Nat.le_of_ble_eq_true rfl) ?_
  rintro _ M2 ⟨rfl, hM2⟩
  rw [hM2]
  clear hM2 M2
  refine g_astore 5 dLink_reset_5 (by decide) rfl ?_
  refine g_aload 7 dLink_reset_7 rfl ?_
  refine g_iload_n 9 dLink_reset_9 rfl ?_
  refine g_callS 10 [_, _] dLink_reset_10 cs_Link_58 rfl rfl ⟨(Nat.le_of_ble_eq_true rfl), (Nat.le_of_ble_eq_true rfl)⟩ (Nat.le_of_ble_eq_true rfl) (ct_streamOf_no hS he hx) (Nat.le_of_ble_eq_true rfl) (Nat.le_of_ble_eq_true rfl) ?_
  rintro _ M2 ⟨rfl, hM2⟩
  rw [hM2]
  clear hM2 M2
  refine g_astoreN 13 dLink_reset_13 (by decide) rfl ?_
  refine g_aload 15 dLink_reset_15 rfl ?_
  refine g_ifnull 17 dLink_reset_17 ?_
  refine g_aloadN 20 dLink_reset_20 rfl ?_
  refine g_ifnullN 22 43 dLink_reset_22 rfl ?_
  refine g_iconst 43 0 dLink_reset_43 rfl ?_
  exact g_zret 44 dLink_reset_44 rfl (by decide) ⟨rfl, rfl⟩

set_option maxRecDepth 100000 in
set_option maxHeartbeats 4000000 in
theorem ct_Link_read_st {X : mX} {l : Launch} {M : mM} {e k : Nat} (hS : Shp M) (he : e < 2) (hk : k < 12) (hu : Kdown M e = 0) {n : Int32} (hm : Kstate M e k = 0) : Ct X l uLink_read (rk 5 111) [.ref 3, .int (nI e), .int (nI (2 * k + 1)), .int n] M (fun r M' => r = some (.long (-1)) ∧ M' = M) := by
  refine Ct.of (by decide) (Nat.le_of_ble_eq_true rfl) ?_
  show G X l uLink_read (rk 5 111) 0 0 M 0 [some (.ref 3), some (.int (nI e)), some (.int (nI (2 * k + 1))), some (.int n), none, none] [] _
  refine g_aload_n 0 dLink_read_0 rfl ?_
  refine g_iload_n 1 dLink_read_1 rfl ?_
  refine g_callV 2 [_] dLink_read_2 cs_Link_21 rfl (ci := 0) rfl (by decide) hS.link rfl ⟨(Nat.le_of_ble_eq_true rfl), (Nat.le_of_ble_eq_true rfl)⟩ (Nat.le_of_ble_eq_true rfl) (ct_upEndOf hS he hu) (Nat.le_of_ble_eq_true rfl) (Nat.le_of_ble_eq_true rfl) ?_
  rintro _ M2 ⟨rfl, hM2⟩
  rw [hM2]
  clear hM2 M2
  refine g_astore 5 dLink_read_5 (by decide) rfl ?_
  refine g_aload 7 dLink_read_7 rfl ?_
  refine g_iload_n 9 dLink_read_9 rfl ?_
  refine g_callS 10 [_, _] dLink_read_10 cs_Link_58 rfl rfl ⟨(Nat.le_of_ble_eq_true rfl), (Nat.le_of_ble_eq_true rfl)⟩ (Nat.le_of_ble_eq_true rfl) (ct_streamOf hS he hk) (Nat.le_of_ble_eq_true rfl) (Nat.le_of_ble_eq_true rfl) ?_
  rintro _ M2 ⟨rfl, hM2⟩
  rw [hM2]
  clear hM2 M2
  refine g_astore 13 dLink_read_13 (by decide) rfl ?_
  refine g_aload 15 dLink_read_15 rfl ?_
  refine g_ifnull 17 dLink_read_17 ?_
  refine g_aload 20 dLink_read_20 rfl ?_
  refine g_ifnull 22 dLink_read_22 ?_
  refine g_aload 25 dLink_read_25 rfl ?_
  refine g_geti 27 8 1 dLink_read_27 fs_Link_93 rfl (hS.tStr he hk) ?_
  refine g_if_eq 30 43 dLink_read_30 rfl (fun h30 => ?_) (fun h30 => ?_)
  · refine g_ldc2 43 (-1) dLink_read_43 lc_Link_96 ?_
    exact g_lret 46 dLink_read_46 rfl ⟨rfl, rfl⟩
  · exact absurd hm h30

set_option maxRecDepth 100000 in
set_option maxHeartbeats 4000000 in
theorem ct_Link_reset_st {X : mX} {l : Launch} {M : mM} {e k : Nat} (hS : Shp M) (he : e < 2) (hk : k < 12) (hu : Kdown M e = 0) {n : Int32} (hm : acC M e k = 0) : Ct X l uLink_reset (rk 5 104) [.ref 3, .int (nI e), .int (nI (2 * k + 1)), .int n] M (fun r M' => r = some (.int 0) ∧ M' = M) := by
  refine Ct.of (by decide) (Nat.le_of_ble_eq_true rfl) ?_
  show G X l uLink_reset (rk 5 104) 0 0 M 0 [some (.ref 3), some (.int (nI e)), some (.int (nI (2 * k + 1))), some (.int n), none, none] [] _
  refine g_aload_n 0 dLink_reset_0 rfl ?_
  refine g_iload_n 1 dLink_reset_1 rfl ?_
  refine g_callV 2 [_] dLink_reset_2 cs_Link_21 rfl (ci := 0) rfl (by decide) hS.link rfl ⟨(Nat.le_of_ble_eq_true rfl), (Nat.le_of_ble_eq_true rfl)⟩ (Nat.le_of_ble_eq_true rfl) (ct_upEndOf hS he hu) (Nat.le_of_ble_eq_true rfl) (Nat.le_of_ble_eq_true rfl) ?_
  rintro _ M2 ⟨rfl, hM2⟩
  rw [hM2]
  clear hM2 M2
  refine g_astore 5 dLink_reset_5 (by decide) rfl ?_
  refine g_aload 7 dLink_reset_7 rfl ?_
  refine g_iload_n 9 dLink_reset_9 rfl ?_
  refine g_callS 10 [_, _] dLink_reset_10 cs_Link_58 rfl rfl ⟨(Nat.le_of_ble_eq_true rfl), (Nat.le_of_ble_eq_true rfl)⟩ (Nat.le_of_ble_eq_true rfl) (ct_streamOf hS he hk) (Nat.le_of_ble_eq_true rfl) (Nat.le_of_ble_eq_true rfl) ?_
  rintro _ M2 ⟨rfl, hM2⟩
  rw [hM2]
  clear hM2 M2
  refine g_astore 13 dLink_reset_13 (by decide) rfl ?_
  refine g_aload 15 dLink_reset_15 rfl ?_
  refine g_ifnull 17 dLink_reset_17 ?_
  refine g_aload 20 dLink_reset_20 rfl ?_
  refine g_ifnull 22 dLink_reset_22 ?_
  refine g_aload 25 dLink_reset_25 rfl ?_
  refine g_callV 27 [] dLink_reset_27 cs_Link_104 rfl (ci := 8) rfl (by decide) (hS.tStr he hk) rfl ⟨(Nat.le_of_ble_eq_true rfl), (Nat.le_of_ble_eq_true rfl)⟩ (Nat.le_of_ble_eq_true rfl) (ct_Str_isActive hS he hk) (Nat.le_of_ble_eq_true rfl) (Nat.le_of_ble_eq_true rfl) ?_
  rintro _ M2 ⟨rfl, hM2⟩
  rw [hM2]
  clear hM2 M2
  refine g_if_eq 30 43 dLink_reset_30 rfl (fun h30 => ?_) (fun h30 => ?_)
  · refine g_iconst 43 0 dLink_reset_43 rfl ?_
    exact g_zret 44 dLink_reset_44 rfl (by decide) ⟨rfl, rfl⟩
  · exact absurd hm h30

set_option maxRecDepth 100000 in
set_option maxHeartbeats 4000000 in
theorem ct_Link_setting_no {X : mX} {l : Launch} {M : mM} {x : Int32} (hS : Shp M) (h0 : ¬ x = 0) (h1 : ¬ x = 1) {s v : Int32} : Ct X l uLink_setting (rk 4 82) [.ref 3, .int x, .int s, .int v] M (fun r M' => r = some (.int 0) ∧ M' = M) := by
  refine Ct.of (by decide) (Nat.le_of_ble_eq_true rfl) ?_
  show G X l uLink_setting (rk 4 82) 0 0 M 0 [some (.ref 3), some (.int x), some (.int s), some (.int v), none] [] _
  refine g_aload_n 0 dLink_setting_0 rfl ?_
  refine g_iload_n 1 dLink_setting_1 rfl ?_
  refine g_callV 2 [_] dLink_setting_2 cs_Link_21 rfl (ci := 0) rfl (by decide) hS.link rfl ⟨(Nat.le_of_ble_eq_true rfl), (Nat.le_of_ble_eq_true rfl)⟩ (Nat.le_of_ble_eq_true rfl) (ct_upEndOf_no hS h0 h1) (Nat.le_of_ble_eq_true rfl) (Nat.le_of_ble_eq_true rfl) ?_
  rintro _ M2 ⟨rfl, hM2⟩
  rw [hM2]
  clear hM2 M2
  refine g_astoreN 5 dLink_setting_5 (by decide) rfl ?_
  refine g_aloadN 7 dLink_setting_7 rfl ?_
  refine g_ifnullN 9 27 dLink_setting_9 rfl ?_
  refine g_iconst 27 0 dLink_setting_27 rfl ?_
  exact g_zret 28 dLink_setting_28 rfl (by decide) ⟨rfl, rfl⟩

set_option maxRecDepth 100000 in
set_option maxHeartbeats 4000000 in
theorem ct_Link_setting_dn {X : mX} {l : Launch} {M : mM} {e : Nat} (hS : Shp M) (he : e < 2) (hu : ¬ Kdown M e = 0) {s v : Int32} : Ct X l uLink_setting (rk 4 82) [.ref 3, .int (nI e), .int s, .int v] M (fun r M' => r = some (.int 0) ∧ M' = M) := by
  refine Ct.of (by decide) (Nat.le_of_ble_eq_true rfl) ?_
  show G X l uLink_setting (rk 4 82) 0 0 M 0 [some (.ref 3), some (.int (nI e)), some (.int s), some (.int v), none] [] _
  refine g_aload_n 0 dLink_setting_0 rfl ?_
  refine g_iload_n 1 dLink_setting_1 rfl ?_
  refine g_callV 2 [_] dLink_setting_2 cs_Link_21 rfl (ci := 0) rfl (by decide) hS.link rfl ⟨(Nat.le_of_ble_eq_true rfl), (Nat.le_of_ble_eq_true rfl)⟩ (Nat.le_of_ble_eq_true rfl) (ct_upEndOf_dn hS he hu) (Nat.le_of_ble_eq_true rfl) (Nat.le_of_ble_eq_true rfl) ?_
  rintro _ M2 ⟨rfl, hM2⟩
  rw [hM2]
  clear hM2 M2
  refine g_astoreN 5 dLink_setting_5 (by decide) rfl ?_
  refine g_aloadN 7 dLink_setting_7 rfl ?_
  refine g_ifnullN 9 27 dLink_setting_9 rfl ?_
  refine g_iconst 27 0 dLink_setting_27 rfl ?_
  exact g_zret 28 dLink_setting_28 rfl (by decide) ⟨rfl, rfl⟩

set_option maxRecDepth 100000 in
set_option maxHeartbeats 4000000 in
theorem ct_Link_setting_bad {X : mX} {l : Launch} {M : mM} {e : Nat} (hS : Shp M) (he : e < 2) (hu : Kdown M e = 0) {s v : Int32} (hb : knC s = 0 ∨ rgC s v = 0) : Ct X l uLink_setting (rk 4 82) [.ref 3, .int (nI e), .int s, .int v] M (fun r M' => r = some (.int 0) ∧ M' = M) := by
  refine Ct.of (by decide) (Nat.le_of_ble_eq_true rfl) ?_
  show G X l uLink_setting (rk 4 82) 0 0 M 0 [some (.ref 3), some (.int (nI e)), some (.int s), some (.int v), none] [] _
  refine g_aload_n 0 dLink_setting_0 rfl ?_
  refine g_iload_n 1 dLink_setting_1 rfl ?_
  refine g_callV 2 [_] dLink_setting_2 cs_Link_21 rfl (ci := 0) rfl (by decide) hS.link rfl ⟨(Nat.le_of_ble_eq_true rfl), (Nat.le_of_ble_eq_true rfl)⟩ (Nat.le_of_ble_eq_true rfl) (ct_upEndOf hS he hu) (Nat.le_of_ble_eq_true rfl) (Nat.le_of_ble_eq_true rfl) ?_
  rintro _ M2 ⟨rfl, hM2⟩
  rw [hM2]
  clear hM2 M2
  refine g_astore 5 dLink_setting_5 (by decide) rfl ?_
  refine g_aload 7 dLink_setting_7 rfl ?_
  refine g_ifnull 9 dLink_setting_9 ?_
  refine g_iload_n 12 dLink_setting_12 rfl ?_
  refine g_callS 13 [_] dLink_setting_13 cs_Link_111 rfl rfl ⟨(Nat.le_of_ble_eq_true rfl), (Nat.le_of_ble_eq_true rfl)⟩ (Nat.le_of_ble_eq_true rfl) (ct_Sett_isKnown) (Nat.le_of_ble_eq_true rfl) (Nat.le_of_ble_eq_true rfl) ?_
  rintro _ M2 ⟨rfl, hM2⟩
  rw [hM2]
  clear hM2 M2
  refine g_if_eq 16 27 dLink_setting_16 rfl (fun h16 => ?_) (fun h16 => ?_)
  · refine g_iconst 27 0 dLink_setting_27 rfl ?_
    exact g_zret 28 dLink_setting_28 rfl (by decide) ⟨rfl, rfl⟩
  · refine g_iload_n 19 dLink_setting_19 rfl ?_
    refine g_iload_n 20 dLink_setting_20 rfl ?_
    refine g_callS 21 [_, _] dLink_setting_21 cs_Link_117 rfl rfl ⟨(Nat.le_of_ble_eq_true rfl), (Nat.le_of_ble_eq_true rfl)⟩ (Nat.le_of_ble_eq_true rfl) (ct_Sett_isInRange) (Nat.le_of_ble_eq_true rfl) (Nat.le_of_ble_eq_true rfl) ?_
    rintro _ M2 ⟨rfl, hM2⟩
    rw [hM2]
    clear hM2 M2
    refine g_if_ne 24 29 dLink_setting_24 rfl (fun h24 => ?_) (fun h24 => ?_)
    · exact absurd (hb.resolve_left h16) h24
    · refine g_iconst 27 0 dLink_setting_27 rfl ?_
      exact g_zret 28 dLink_setting_28 rfl (by decide) ⟨rfl, rfl⟩

set_option maxRecDepth 100000 in
set_option maxHeartbeats 4000000 in
theorem ct_Link_deliver_no {X : mX} {l : Launch} {M : mM} {x : Int32} (hS : Shp M) (h0 : ¬ x = 0) (h1 : ¬ x = 1) : Ct X l uLink_deliver (rk 7 148) [.ref 3, .int x] M (fun r M' => r = some (.int (-1)) ∧ M' = M) := by
  refine Ct.of (by decide) (Nat.le_of_ble_eq_true rfl) ?_
  show G X l uLink_deliver (rk 7 148) 0 0 M 0 [some (.ref 3), some (.int x), none, none, none] [] _
  refine g_aload_n 0 dLink_deliver_0 rfl ?_
  refine g_iload_n 1 dLink_deliver_1 rfl ?_
  refine g_callV 2 [_] dLink_deliver_2 cs_Link_128 rfl (ci := 0) rfl (by decide) hS.link rfl ⟨(Nat.le_of_ble_eq_true rfl), (Nat.le_of_ble_eq_true rfl)⟩ (Nat.le_of_ble_eq_true rfl) (ct_endOf_no h0 h1) (Nat.le_of_ble_eq_true rfl) (Nat.le_of_ble_eq_true rfl) ?_
  rintro _ M2 ⟨rfl, hM2⟩
  rw [hM2]
  clear hM2 M2
  refine g_astore_nN 5 dLink_deliver_5 (by decide) rfl ?_
  refine g_aload_nN 6 dLink_deliver_6 rfl ?_
  refine g_ifnullN 7 20 dLink_deliver_7 rfl ?_
  refine g_iconst 20 (-1) dLink_deliver_20 rfl ?_
  exact g_iret 21 dLink_deliver_21 rfl ⟨rfl, rfl⟩

set_option maxRecDepth 100000 in
set_option maxHeartbeats 4000000 in
theorem ct_Link_deliver_0 {X : mX} {l : Launch} {M : mM} {e : Nat} (hS : Shp M) (he : e < 2) (hc : mI M (4 + 2 * e) 2 = 0) : Ct X l uLink_deliver (rk 7 148) [.ref 3, .int (nI e)] M (fun r M' => r = some (.int (-1)) ∧ M' = M) := by
  refine Ct.of (by decide) (Nat.le_of_ble_eq_true rfl) ?_
  show G X l uLink_deliver (rk 7 148) 0 0 M 0 [some (.ref 3), some (.int (nI e)), none, none, none] [] _
  refine g_aload_n 0 dLink_deliver_0 rfl ?_
  refine g_iload_n 1 dLink_deliver_1 rfl ?_
  refine g_callV 2 [_] dLink_deliver_2 cs_Link_128 rfl (ci := 0) rfl (by decide) hS.link rfl ⟨(Nat.le_of_ble_eq_true rfl), (Nat.le_of_ble_eq_true rfl)⟩ (Nat.le_of_ble_eq_true rfl) (ct_endOf hS he) (Nat.le_of_ble_eq_true rfl) (Nat.le_of_ble_eq_true rfl) ?_
  rintro _ M2 ⟨rfl, hM2⟩
  rw [hM2]
  clear hM2 M2
  refine g_astore_n 5 dLink_deliver_5 (by decide) rfl ?_
  refine g_aload_n 6 dLink_deliver_6 rfl ?_
  refine g_ifnull 7 dLink_deliver_7 ?_
  refine g_aload_n 10 dLink_deliver_10 rfl ?_
  refine g_getr 11 2 1 dLink_deliver_11 fs_Link_131 rfl (hS.tEnd he) (hS.rEnd1 he) ?_
  refine g_geti 14 1 2 dLink_deliver_14 fs_Link_134 rfl (hS.tPipe he) ?_
  refine g_if_ne 17 22 dLink_deliver_17 rfl (fun h17 => ?_) (fun h17 => ?_)
  · exact absurd hc h17
  · refine g_iconst 20 (-1) dLink_deliver_20 rfl ?_
    exact g_iret 21 dLink_deliver_21 rfl ⟨rfl, rfl⟩

set_option maxRecDepth 100000 in
set_option maxHeartbeats 4000000 in
theorem ct_Link_frame_no {X : mX} {l : Launch} {M : mM} {x : Int32} (hS : Shp M) (h0 : ¬ x = 0) (h1 : ¬ x = 1) {j w : Int32} : Ct X l uLink_frame (rk 1 21) [.ref 3, .int x, .int j, .int w] M (fun r M' => r = some (.int (-1)) ∧ M' = M) := by
  refine Ct.of (by decide) (Nat.le_of_ble_eq_true rfl) ?_
  show G X l uLink_frame (rk 1 21) 0 0 M 0 [some (.ref 3), some (.int x), some (.int j), some (.int w), none, none] [] _
  refine g_aload_n 0 dLink_frame_0 rfl ?_
  refine g_iload_n 1 dLink_frame_1 rfl ?_
  refine g_callV 2 [_] dLink_frame_2 cs_Link_128 rfl (ci := 0) rfl (by decide) hS.link rfl ⟨(Nat.le_of_ble_eq_true rfl), (Nat.le_of_ble_eq_true rfl)⟩ (Nat.le_of_ble_eq_true rfl) (ct_endOf_no h0 h1) (Nat.le_of_ble_eq_true rfl) (Nat.le_of_ble_eq_true rfl) ?_
  rintro _ M2 ⟨rfl, hM2⟩
  rw [hM2]
  clear hM2 M2
  refine g_astoreN 5 dLink_frame_5 (by decide) rfl ?_
  refine g_aloadN 7 dLink_frame_7 rfl ?_
  refine g_ifnonnullN 9 dLink_frame_9 ?_
  refine g_null 12 dLink_frame_12 ?_
  refine g_goto 13 25 dLink_frame_13 rfl ?_
  refine g_astoreN 25 dLink_frame_25 (by decide) rfl ?_
  refine g_aloadN 27 dLink_frame_27 rfl ?_
  refine g_ifnonnullN 29 dLink_frame_29 ?_
  refine g_iconst 32 (-1) dLink_frame_32 rfl ?_
  refine g_goto 33 42 dLink_frame_33 rfl ?_
  exact g_iret 42 dLink_frame_42 rfl ⟨rfl, rfl⟩

set_option maxRecDepth 100000 in
set_option maxHeartbeats 4000000 in
theorem ct_Link_request_dn {X : mX} {l : Launch} {M : mM} (hS : Shp M) (hu : ¬ Kdown M 0 = 0) {z : Int32} : Ct X l uLink_request (rk 7 157) [.ref 3, .int z] M (fun r M' => r = some (.int (-1)) ∧ M' = M) := by
  refine Ct.of (by decide) (Nat.le_of_ble_eq_true rfl) ?_
  show G X l uLink_request (rk 7 157) 0 0 M 0 [some (.ref 3), some (.int z), none] [] _
  refine g_aload_n 0 dLink_request_0 rfl ?_
  refine g_iconst 1 (nI 0) dLink_request_1 rfl ?_
  refine g_callV 2 [_] dLink_request_2 cs_Link_21 rfl (ci := 0) rfl (by decide) hS.link rfl ⟨(Nat.le_of_ble_eq_true rfl), (Nat.le_of_ble_eq_true rfl)⟩ (Nat.le_of_ble_eq_true rfl) (ct_upEndOf_dn hS (e := 0) (by decide) hu) (Nat.le_of_ble_eq_true rfl) (Nat.le_of_ble_eq_true rfl) ?_
  rintro _ M2 ⟨rfl, hM2⟩
  rw [hM2]
  clear hM2 M2
  refine g_astore_nN 5 dLink_request_5 (by decide) rfl ?_
  refine g_aload_nN 6 dLink_request_6 rfl ?_
  refine g_ifnullN 7 17 dLink_request_7 rfl ?_
  refine g_iconst 17 (-1) dLink_request_17 rfl ?_
  exact g_iret 18 dLink_request_18 rfl ⟨rfl, rfl⟩

set_option maxRecDepth 100000 in
set_option maxHeartbeats 4000000 in
theorem ct_Link_respond_dn {X : mX} {l : Launch} {M : mM} (hS : Shp M) (hu : ¬ Kdown M 1 = 0) {y z : Int32} : Ct X l uLink_respond (rk 6 135) [.ref 3, .int y, .int z] M (fun r M' => r = some (.int (-1)) ∧ M' = M) := by
  refine Ct.of (by decide) (Nat.le_of_ble_eq_true rfl) ?_
  show G X l uLink_respond (rk 6 135) 0 0 M 0 [some (.ref 3), some (.int y), some (.int z), none, none, none] [] _
  refine g_aload_n 0 dLink_respond_0 rfl ?_
  refine g_iconst 1 (nI 1) dLink_respond_1 rfl ?_
  refine g_callV 2 [_] dLink_respond_2 cs_Link_21 rfl (ci := 0) rfl (by decide) hS.link rfl ⟨(Nat.le_of_ble_eq_true rfl), (Nat.le_of_ble_eq_true rfl)⟩ (Nat.le_of_ble_eq_true rfl) (ct_upEndOf_dn hS (e := 1) (by decide) hu) (Nat.le_of_ble_eq_true rfl) (Nat.le_of_ble_eq_true rfl) ?_
  rintro _ M2 ⟨rfl, hM2⟩
  rw [hM2]
  clear hM2 M2
  refine g_astore_nN 5 dLink_respond_5 (by decide) rfl ?_
  refine g_aload_nN 6 dLink_respond_6 rfl ?_
  refine g_iload_n 7 dLink_respond_7 rfl ?_
  refine g_callS 8 [_, _] dLink_respond_8 cs_Link_58 rfl rfl ⟨(Nat.le_of_ble_eq_true rfl), (Nat.le_of_ble_eq_true rfl)⟩ (Nat.le_of_ble_eq_true rfl) (ct_streamOf_N) (Nat.le_of_ble_eq_true rfl) (Nat.le_of_ble_eq_true rfl) ?_
  rintro _ M2 ⟨rfl, hM2⟩
  rw [hM2]
  clear hM2 M2
  refine g_astoreN 11 dLink_respond_11 (by decide) rfl ?_
  refine g_aload_nN 13 dLink_respond_13 rfl ?_
  refine g_ifnullN 14 48 dLink_respond_14 rfl ?_
  refine g_iconst 48 (-1) dLink_respond_48 rfl ?_
  exact g_iret 49 dLink_respond_49 rfl ⟨rfl, rfl⟩

set_option maxRecDepth 100000 in
set_option maxHeartbeats 4000000 in
theorem ct_Link_respond_ns {X : mX} {l : Launch} {M : mM} (hS : Shp M) (hu : Kdown M 1 = 0) {y z : Int32} (hx : ¬ isStr y) : Ct X l uLink_respond (rk 6 135) [.ref 3, .int y, .int z] M (fun r M' => r = some (.int (-1)) ∧ M' = M) := by
  refine Ct.of (by decide) (Nat.le_of_ble_eq_true rfl) ?_
  show G X l uLink_respond (rk 6 135) 0 0 M 0 [some (.ref 3), some (.int y), some (.int z), none, none, none] [] _
  refine g_aload_n 0 dLink_respond_0 rfl ?_
  refine g_iconst 1 (nI 1) dLink_respond_1 rfl ?_
  refine g_callV 2 [_] dLink_respond_2 cs_Link_21 rfl (ci := 0) rfl (by decide) hS.link rfl ⟨(Nat.le_of_ble_eq_true rfl), (Nat.le_of_ble_eq_true rfl)⟩ (Nat.le_of_ble_eq_true rfl) (ct_upEndOf hS (e := 1) (by decide) hu) (Nat.le_of_ble_eq_true rfl) (Nat.le_of_ble_eq_true rfl) ?_
  rintro _ M2 ⟨rfl, hM2⟩
  rw [hM2]
  clear hM2 M2
  refine g_astore_n 5 dLink_respond_5 (by decide) rfl ?_
  refine g_aload_n 6 dLink_respond_6 rfl ?_
  refine g_iload_n 7 dLink_respond_7 rfl ?_
  refine g_callS 8 [_, _] dLink_respond_8 cs_Link_58 rfl rfl ⟨(Nat.le_of_ble_eq_true rfl), (Nat.le_of_ble_eq_true rfl)⟩ (Nat.le_of_ble_eq_true rfl) (ct_streamOf_no hS (e := 1) (by decide) hx) (Nat.le_of_ble_eq_true rfl) (Nat.le_of_ble_eq_true rfl) ?_
  rintro _ M2 ⟨rfl, hM2⟩
  rw [hM2]
  clear hM2 M2
  refine g_astoreN 11 dLink_respond_11 (by decide) rfl ?_
  refine g_aload_n 13 dLink_respond_13 rfl ?_
  refine g_ifnull 14 dLink_respond_14 ?_
  refine g_aloadN 17 dLink_respond_17 rfl ?_
  refine g_ifnullN 19 48 dLink_respond_19 rfl ?_
  refine g_iconst 48 (-1) dLink_respond_48 rfl ?_
  exact g_iret 49 dLink_respond_49 rfl ⟨rfl, rfl⟩
end
