-- ===== PART A: goes FIRST, ahead of the names: the tables' words, and 'selects' of the private methods out of them =====
/-- a private method of a class that the tables say can be made, by its rows of tables_1 -/
def lw_okq (q : MethodName × Nat) : Prop := (q.1.cls ≠ "java/lang/invoke/MethodHandle" ∧ q.1.cls ≠ "java/lang/invoke/VarHandle") ∧ Cond.instantiable q.1.cls q.2 ∈ tables_1 ∧ Cond.privateMethod q.1 ∈ tables_1 ∧ Cond.instanceMethod q.1 ∈ tables_1
theorem lw_p0 : lw_okq (⟨"IdentityIssuer", "numberOfText", "()I"⟩, 14) := ⟨⟨by decide +kernel, by decide +kernel⟩, List.mem_of_getElem? (i := 27) (by decide +kernel), List.mem_of_getElem? (i := 279) (by decide +kernel), List.mem_of_getElem? (i := 280) (by decide +kernel)⟩
theorem lw_p1 : lw_okq (⟨"IdentityIssuer$Ids", "isText", "(ILIdentityIssuer$Bytes;)Z"⟩, 4) := ⟨⟨by decide +kernel, by decide +kernel⟩, List.mem_of_getElem? (i := 49) (by decide +kernel), List.mem_of_getElem? (i := 359) (by decide +kernel), List.mem_of_getElem? (i := 360) (by decide +kernel)⟩
theorem lw_p2 : lw_okq (⟨"java/util/ArrayList", "add", "(Ljava/lang/Object;[Ljava/lang/Object;I)V"⟩, 3) := ⟨⟨by decide +kernel, by decide +kernel⟩, List.mem_of_getElem? (i := 76) (by decide +kernel), List.mem_of_getElem? (i := 444) (by decide +kernel), List.mem_of_getElem? (i := 445) (by decide +kernel)⟩
theorem lw_p3 : lw_okq (⟨"java/util/ArrayList", "grow", "()[Ljava/lang/Object;"⟩, 3) := ⟨⟨by decide +kernel, by decide +kernel⟩, List.mem_of_getElem? (i := 76) (by decide +kernel), List.mem_of_getElem? (i := 448) (by decide +kernel), List.mem_of_getElem? (i := 449) (by decide +kernel)⟩
theorem lw_p4 : lw_okq (⟨"java/util/ArrayList", "grow", "(I)[Ljava/lang/Object;"⟩, 3) := ⟨⟨by decide +kernel, by decide +kernel⟩, List.mem_of_getElem? (i := 76) (by decide +kernel), List.mem_of_getElem? (i := 452) (by decide +kernel), List.mem_of_getElem? (i := 453) (by decide +kernel)⟩
theorem lw_p5 : lw_okq (⟨"java/util/ArrayList", "fastRemove", "([Ljava/lang/Object;I)V"⟩, 3) := ⟨⟨by decide +kernel, by decide +kernel⟩, List.mem_of_getElem? (i := 76) (by decide +kernel), List.mem_of_getElem? (i := 521) (by decide +kernel), List.mem_of_getElem? (i := 522) (by decide +kernel)⟩
theorem lw_p6 : lw_okq (⟨"IdentityIssuer", "agentWith", "(I)I"⟩, 14) := ⟨⟨by decide +kernel, by decide +kernel⟩, List.mem_of_getElem? (i := 27) (by decide +kernel), List.mem_of_getElem? (i := 534) (by decide +kernel), List.mem_of_getElem? (i := 535) (by decide +kernel)⟩
theorem lw_p7 : lw_okq (⟨"IdentityIssuer", "addAgent", "(II)I"⟩, 14) := ⟨⟨by decide +kernel, by decide +kernel⟩, List.mem_of_getElem? (i := 27) (by decide +kernel), List.mem_of_getElem? (i := 541) (by decide +kernel), List.mem_of_getElem? (i := 542) (by decide +kernel)⟩
theorem lw_p8 : lw_okq (⟨"IdentityIssuer", "isAgent", "(I)Z"⟩, 14) := ⟨⟨by decide +kernel, by decide +kernel⟩, List.mem_of_getElem? (i := 27) (by decide +kernel), List.mem_of_getElem? (i := 595) (by decide +kernel), List.mem_of_getElem? (i := 596) (by decide +kernel)⟩
theorem lw_p9 : lw_okq (⟨"IdentityIssuer$Entries", "withChildren", "(I)I"⟩, 2) := ⟨⟨by decide +kernel, by decide +kernel⟩, List.mem_of_getElem? (i := 70) (by decide +kernel), List.mem_of_getElem? (i := 607) (by decide +kernel), List.mem_of_getElem? (i := 608) (by decide +kernel)⟩
theorem lw_p10 : lw_okq (⟨"IdentityIssuer", "countDue", "(LIdentityIssuer$Agent;I)I"⟩, 14) := ⟨⟨by decide +kernel, by decide +kernel⟩, List.mem_of_getElem? (i := 27) (by decide +kernel), List.mem_of_getElem? (i := 615) (by decide +kernel), List.mem_of_getElem? (i := 616) (by decide +kernel)⟩
theorem lw_p11 : lw_okq (⟨"IdentityIssuer", "renew", "(LIdentityIssuer$Agent;I)V"⟩, 14) := ⟨⟨by decide +kernel, by decide +kernel⟩, List.mem_of_getElem? (i := 27) (by decide +kernel), List.mem_of_getElem? (i := 647) (by decide +kernel), List.mem_of_getElem? (i := 648) (by decide +kernel)⟩
theorem lw_p12 : lw_okq (⟨"IdentityIssuer", "issue", "(LIdentityIssuer$Entry;)LIdentityIssuer$Certificate;"⟩, 14) := ⟨⟨by decide +kernel, by decide +kernel⟩, List.mem_of_getElem? (i := 27) (by decide +kernel), List.mem_of_getElem? (i := 652) (by decide +kernel), List.mem_of_getElem? (i := 653) (by decide +kernel)⟩
theorem lw_p13 : lw_okq (⟨"IdentityIssuer$Writer", "writeBody", "(LIdentityIssuer$Certificate;LIdentityIssuer$Ids;)V"⟩, 2) := ⟨⟨by decide +kernel, by decide +kernel⟩, List.mem_of_getElem? (i := 177) (by decide +kernel), List.mem_of_getElem? (i := 815) (by decide +kernel), List.mem_of_getElem? (i := 816) (by decide +kernel)⟩
theorem lw_p14 : lw_okq (⟨"IdentityIssuer$Writer", "writeNumber", "(I)V"⟩, 2) := ⟨⟨by decide +kernel, by decide +kernel⟩, List.mem_of_getElem? (i := 177) (by decide +kernel), List.mem_of_getElem? (i := 819) (by decide +kernel), List.mem_of_getElem? (i := 820) (by decide +kernel)⟩
theorem lw_p15 : lw_okq (⟨"IdentityIssuer$Reader", "expect", "(I)V"⟩, 9) := ⟨⟨by decide +kernel, by decide +kernel⟩, List.mem_of_getElem? (i := 134) (by decide +kernel), List.mem_of_getElem? (i := 861) (by decide +kernel), List.mem_of_getElem? (i := 862) (by decide +kernel)⟩
def lw_privs_1 : List (MethodName × Nat) := [(⟨"IdentityIssuer", "numberOfText", "()I"⟩, 14), (⟨"IdentityIssuer$Ids", "isText", "(ILIdentityIssuer$Bytes;)Z"⟩, 4), (⟨"java/util/ArrayList", "add", "(Ljava/lang/Object;[Ljava/lang/Object;I)V"⟩, 3), (⟨"java/util/ArrayList", "grow", "()[Ljava/lang/Object;"⟩, 3), (⟨"java/util/ArrayList", "grow", "(I)[Ljava/lang/Object;"⟩, 3), (⟨"java/util/ArrayList", "fastRemove", "([Ljava/lang/Object;I)V"⟩, 3), (⟨"IdentityIssuer", "agentWith", "(I)I"⟩, 14), (⟨"IdentityIssuer", "addAgent", "(II)I"⟩, 14), (⟨"IdentityIssuer", "isAgent", "(I)Z"⟩, 14), (⟨"IdentityIssuer$Entries", "withChildren", "(I)I"⟩, 2), (⟨"IdentityIssuer", "countDue", "(LIdentityIssuer$Agent;I)I"⟩, 14), (⟨"IdentityIssuer", "renew", "(LIdentityIssuer$Agent;I)V"⟩, 14), (⟨"IdentityIssuer", "issue", "(LIdentityIssuer$Entry;)LIdentityIssuer$Certificate;"⟩, 14), (⟨"IdentityIssuer$Writer", "writeBody", "(LIdentityIssuer$Certificate;LIdentityIssuer$Ids;)V"⟩, 2), (⟨"IdentityIssuer$Writer", "writeNumber", "(I)V"⟩, 2), (⟨"IdentityIssuer$Reader", "expect", "(I)V"⟩, 9)]
theorem lw_r1 : ∀ q ∈ lw_privs_1, lw_okq q := List.forall_mem_cons.mpr ⟨lw_p0, List.forall_mem_cons.mpr ⟨lw_p1, List.forall_mem_cons.mpr ⟨lw_p2, List.forall_mem_cons.mpr ⟨lw_p3, List.forall_mem_cons.mpr ⟨lw_p4, List.forall_mem_cons.mpr ⟨lw_p5, List.forall_mem_cons.mpr ⟨lw_p6, List.forall_mem_cons.mpr ⟨lw_p7, List.forall_mem_cons.mpr ⟨lw_p8, List.forall_mem_cons.mpr ⟨lw_p9, List.forall_mem_cons.mpr ⟨lw_p10, List.forall_mem_cons.mpr ⟨lw_p11, List.forall_mem_cons.mpr ⟨lw_p12, List.forall_mem_cons.mpr ⟨lw_p13, List.forall_mem_cons.mpr ⟨lw_p14, List.forall_mem_cons.mpr ⟨lw_p15, fun _ h => absurd h List.not_mem_nil⟩⟩⟩⟩⟩⟩⟩⟩⟩⟩⟩⟩⟩⟩⟩⟩
theorem lw_p16 : lw_okq (⟨"IdentityIssuer$Reader", "fail", "(I)V"⟩, 9) := ⟨⟨by decide +kernel, by decide +kernel⟩, List.mem_of_getElem? (i := 134) (by decide +kernel), List.mem_of_getElem? (i := 866) (by decide +kernel), List.mem_of_getElem? (i := 867) (by decide +kernel)⟩
theorem lw_p17 : lw_okq (⟨"IdentityIssuer$Reader", "skipLength", "()V"⟩, 9) := ⟨⟨by decide +kernel, by decide +kernel⟩, List.mem_of_getElem? (i := 134) (by decide +kernel), List.mem_of_getElem? (i := 870) (by decide +kernel), List.mem_of_getElem? (i := 871) (by decide +kernel)⟩
theorem lw_p18 : lw_okq (⟨"IdentityIssuer$Reader", "readNumber", "()I"⟩, 9) := ⟨⟨by decide +kernel, by decide +kernel⟩, List.mem_of_getElem? (i := 134) (by decide +kernel), List.mem_of_getElem? (i := 874) (by decide +kernel), List.mem_of_getElem? (i := 875) (by decide +kernel)⟩
theorem lw_p19 : lw_okq (⟨"IdentityIssuer$Reader", "readId", "()V"⟩, 9) := ⟨⟨by decide +kernel, by decide +kernel⟩, List.mem_of_getElem? (i := 134) (by decide +kernel), List.mem_of_getElem? (i := 878) (by decide +kernel), List.mem_of_getElem? (i := 879) (by decide +kernel)⟩
theorem lw_p20 : lw_okq (⟨"IdentityIssuer$Reader", "checkLengths", "()V"⟩, 9) := ⟨⟨by decide +kernel, by decide +kernel⟩, List.mem_of_getElem? (i := 134) (by decide +kernel), List.mem_of_getElem? (i := 885) (by decide +kernel), List.mem_of_getElem? (i := 886) (by decide +kernel)⟩
theorem lw_p21 : lw_okq (⟨"IdentityIssuer", "judge", "()I"⟩, 14) := ⟨⟨by decide +kernel, by decide +kernel⟩, List.mem_of_getElem? (i := 27) (by decide +kernel), List.mem_of_getElem? (i := 889) (by decide +kernel), List.mem_of_getElem? (i := 890) (by decide +kernel)⟩
theorem lw_p22 : lw_okq (⟨"IdentityIssuerModel", "identify", "(I)I"⟩, 52) := ⟨⟨by decide +kernel, by decide +kernel⟩, List.mem_of_getElem? (i := 926) (by decide +kernel), List.mem_of_getElem? (i := 1102) (by decide +kernel), List.mem_of_getElem? (i := 1103) (by decide +kernel)⟩
theorem lw_p23 : lw_okq (⟨"IdentityIssuerModel", "idError", "(II)I"⟩, 52) := ⟨⟨by decide +kernel, by decide +kernel⟩, List.mem_of_getElem? (i := 926) (by decide +kernel), List.mem_of_getElem? (i := 1106) (by decide +kernel), List.mem_of_getElem? (i := 1107) (by decide +kernel)⟩
theorem lw_p24 : lw_okq (⟨"IdentityIssuerModel", "errorBySigns", "(II)I"⟩, 52) := ⟨⟨by decide +kernel, by decide +kernel⟩, List.mem_of_getElem? (i := 926) (by decide +kernel), List.mem_of_getElem? (i := 1110) (by decide +kernel), List.mem_of_getElem? (i := 1111) (by decide +kernel)⟩
theorem lw_p25 : lw_okq (⟨"IdentityIssuerModel", "sign", "(III)I"⟩, 52) := ⟨⟨by decide +kernel, by decide +kernel⟩, List.mem_of_getElem? (i := 926) (by decide +kernel), List.mem_of_getElem? (i := 1114) (by decide +kernel), List.mem_of_getElem? (i := 1115) (by decide +kernel)⟩
theorem lw_p26 : lw_okq (⟨"IdentityIssuerModel", "isId", "(II)Z"⟩, 52) := ⟨⟨by decide +kernel, by decide +kernel⟩, List.mem_of_getElem? (i := 926) (by decide +kernel), List.mem_of_getElem? (i := 1127) (by decide +kernel), List.mem_of_getElem? (i := 1128) (by decide +kernel)⟩
theorem lw_p27 : lw_okq (⟨"IdentityIssuerModel", "good", "(I)Z"⟩, 52) := ⟨⟨by decide +kernel, by decide +kernel⟩, List.mem_of_getElem? (i := 926) (by decide +kernel), List.mem_of_getElem? (i := 1135) (by decide +kernel), List.mem_of_getElem? (i := 1136) (by decide +kernel)⟩
theorem lw_p28 : lw_okq (⟨"IdentityIssuerModel", "ours", "(I)Z"⟩, 52) := ⟨⟨by decide +kernel, by decide +kernel⟩, List.mem_of_getElem? (i := 926) (by decide +kernel), List.mem_of_getElem? (i := 1139) (by decide +kernel), List.mem_of_getElem? (i := 1140) (by decide +kernel)⟩
theorem lw_p29 : lw_okq (⟨"IdentityIssuerModel", "forget", "(I)V"⟩, 52) := ⟨⟨by decide +kernel, by decide +kernel⟩, List.mem_of_getElem? (i := 926) (by decide +kernel), List.mem_of_getElem? (i := 1156) (by decide +kernel), List.mem_of_getElem? (i := 1157) (by decide +kernel)⟩
theorem lw_p30 : lw_okq (⟨"IdentityIssuerModel", "reach", "(I)I"⟩, 52) := ⟨⟨by decide +kernel, by decide +kernel⟩, List.mem_of_getElem? (i := 926) (by decide +kernel), List.mem_of_getElem? (i := 1164) (by decide +kernel), List.mem_of_getElem? (i := 1165) (by decide +kernel)⟩
theorem lw_p31 : lw_okq (⟨"IdentityIssuerModel", "entitled", "(II)Z"⟩, 52) := ⟨⟨by decide +kernel, by decide +kernel⟩, List.mem_of_getElem? (i := 926) (by decide +kernel), List.mem_of_getElem? (i := 1168) (by decide +kernel), List.mem_of_getElem? (i := 1169) (by decide +kernel)⟩
def lw_privs_2 : List (MethodName × Nat) := [(⟨"IdentityIssuer$Reader", "fail", "(I)V"⟩, 9), (⟨"IdentityIssuer$Reader", "skipLength", "()V"⟩, 9), (⟨"IdentityIssuer$Reader", "readNumber", "()I"⟩, 9), (⟨"IdentityIssuer$Reader", "readId", "()V"⟩, 9), (⟨"IdentityIssuer$Reader", "checkLengths", "()V"⟩, 9), (⟨"IdentityIssuer", "judge", "()I"⟩, 14), (⟨"IdentityIssuerModel", "identify", "(I)I"⟩, 52), (⟨"IdentityIssuerModel", "idError", "(II)I"⟩, 52), (⟨"IdentityIssuerModel", "errorBySigns", "(II)I"⟩, 52), (⟨"IdentityIssuerModel", "sign", "(III)I"⟩, 52), (⟨"IdentityIssuerModel", "isId", "(II)Z"⟩, 52), (⟨"IdentityIssuerModel", "good", "(I)Z"⟩, 52), (⟨"IdentityIssuerModel", "ours", "(I)Z"⟩, 52), (⟨"IdentityIssuerModel", "forget", "(I)V"⟩, 52), (⟨"IdentityIssuerModel", "reach", "(I)I"⟩, 52), (⟨"IdentityIssuerModel", "entitled", "(II)Z"⟩, 52)]
theorem lw_r2 : ∀ q ∈ lw_privs_2, lw_okq q := List.forall_mem_cons.mpr ⟨lw_p16, List.forall_mem_cons.mpr ⟨lw_p17, List.forall_mem_cons.mpr ⟨lw_p18, List.forall_mem_cons.mpr ⟨lw_p19, List.forall_mem_cons.mpr ⟨lw_p20, List.forall_mem_cons.mpr ⟨lw_p21, List.forall_mem_cons.mpr ⟨lw_p22, List.forall_mem_cons.mpr ⟨lw_p23, List.forall_mem_cons.mpr ⟨lw_p24, List.forall_mem_cons.mpr ⟨lw_p25, List.forall_mem_cons.mpr ⟨lw_p26, List.forall_mem_cons.mpr ⟨lw_p27, List.forall_mem_cons.mpr ⟨lw_p28, List.forall_mem_cons.mpr ⟨lw_p29, List.forall_mem_cons.mpr ⟨lw_p30, List.forall_mem_cons.mpr ⟨lw_p31, fun _ h => absurd h List.not_mem_nil⟩⟩⟩⟩⟩⟩⟩⟩⟩⟩⟩⟩⟩⟩⟩⟩
theorem lw_p32 : lw_okq (⟨"IdentityIssuerModel", "lacks", "(II)Z"⟩, 52) := ⟨⟨by decide +kernel, by decide +kernel⟩, List.mem_of_getElem? (i := 926) (by decide +kernel), List.mem_of_getElem? (i := 1172) (by decide +kernel), List.mem_of_getElem? (i := 1173) (by decide +kernel)⟩
theorem lw_p33 : lw_okq (⟨"IdentityIssuerModel", "isGood", "(I)Z"⟩, 52) := ⟨⟨by decide +kernel, by decide +kernel⟩, List.mem_of_getElem? (i := 926) (by decide +kernel), List.mem_of_getElem? (i := 1176) (by decide +kernel), List.mem_of_getElem? (i := 1177) (by decide +kernel)⟩
theorem lw_p34 : lw_okq (⟨"IdentityIssuerModel", "issue", "(II)V"⟩, 52) := ⟨⟨by decide +kernel, by decide +kernel⟩, List.mem_of_getElem? (i := 926) (by decide +kernel), List.mem_of_getElem? (i := 1180) (by decide +kernel), List.mem_of_getElem? (i := 1181) (by decide +kernel)⟩
theorem lw_p35 : lw_okq (⟨"IdentityIssuerModel", "respond", "(II)V"⟩, 52) := ⟨⟨by decide +kernel, by decide +kernel⟩, List.mem_of_getElem? (i := 926) (by decide +kernel), List.mem_of_getElem? (i := 1188) (by decide +kernel), List.mem_of_getElem? (i := 1189) (by decide +kernel)⟩
theorem lw_p36 : lw_okq (⟨"IdentityIssuerModel", "show", "(I)I"⟩, 52) := ⟨⟨by decide +kernel, by decide +kernel⟩, List.mem_of_getElem? (i := 926) (by decide +kernel), List.mem_of_getElem? (i := 1192) (by decide +kernel), List.mem_of_getElem? (i := 1193) (by decide +kernel)⟩
theorem lw_p37 : lw_okq (⟨"IdentityIssuerModel", "foreignFor", "(I)I"⟩, 52) := ⟨⟨by decide +kernel, by decide +kernel⟩, List.mem_of_getElem? (i := 926) (by decide +kernel), List.mem_of_getElem? (i := 1196) (by decide +kernel), List.mem_of_getElem? (i := 1197) (by decide +kernel)⟩
theorem lw_p38 : lw_okq (⟨"IdentityIssuerModel", "news", "(II)Z"⟩, 52) := ⟨⟨by decide +kernel, by decide +kernel⟩, List.mem_of_getElem? (i := 926) (by decide +kernel), List.mem_of_getElem? (i := 1208) (by decide +kernel), List.mem_of_getElem? (i := 1209) (by decide +kernel)⟩
theorem lw_p39 : lw_okq (⟨"IdentityIssuerModel", "make", "(I)V"⟩, 52) := ⟨⟨by decide +kernel, by decide +kernel⟩, List.mem_of_getElem? (i := 926) (by decide +kernel), List.mem_of_getElem? (i := 1228) (by decide +kernel), List.mem_of_getElem? (i := 1229) (by decide +kernel)⟩
theorem lw_p40 : lw_okq (⟨"IdentityIssuerModel", "out", "(I)V"⟩, 52) := ⟨⟨by decide +kernel, by decide +kernel⟩, List.mem_of_getElem? (i := 926) (by decide +kernel), List.mem_of_getElem? (i := 1232) (by decide +kernel), List.mem_of_getElem? (i := 1233) (by decide +kernel)⟩
theorem lw_p41 : lw_okq (⟨"IdentityIssuerModel", "outNumber", "(I)V"⟩, 52) := ⟨⟨by decide +kernel, by decide +kernel⟩, List.mem_of_getElem? (i := 926) (by decide +kernel), List.mem_of_getElem? (i := 1236) (by decide +kernel), List.mem_of_getElem? (i := 1237) (by decide +kernel)⟩
theorem lw_p42 : lw_okq (⟨"IdentityIssuerModel", "secretOf", "(I)J"⟩, 52) := ⟨⟨by decide +kernel, by decide +kernel⟩, List.mem_of_getElem? (i := 926) (by decide +kernel), List.mem_of_getElem? (i := 1247) (by decide +kernel), List.mem_of_getElem? (i := 1248) (by decide +kernel)⟩
theorem lw_p43 : lw_okq (⟨"IdentityIssuerModel", "verified", "()I"⟩, 52) := ⟨⟨by decide +kernel, by decide +kernel⟩, List.mem_of_getElem? (i := 926) (by decide +kernel), List.mem_of_getElem? (i := 1274) (by decide +kernel), List.mem_of_getElem? (i := 1275) (by decide +kernel)⟩
theorem lw_p44 : lw_okq (⟨"IdentityIssuerModel", "in", "(II)I"⟩, 52) := ⟨⟨by decide +kernel, by decide +kernel⟩, List.mem_of_getElem? (i := 926) (by decide +kernel), List.mem_of_getElem? (i := 1278) (by decide +kernel), List.mem_of_getElem? (i := 1279) (by decide +kernel)⟩
theorem lw_p45 : lw_okq (⟨"IdentityIssuerModel", "error", "(I)V"⟩, 52) := ⟨⟨by decide +kernel, by decide +kernel⟩, List.mem_of_getElem? (i := 926) (by decide +kernel), List.mem_of_getElem? (i := 1282) (by decide +kernel), List.mem_of_getElem? (i := 1283) (by decide +kernel)⟩
theorem lw_p46 : lw_okq (⟨"IdentityIssuerModel", "inNumber", "()I"⟩, 52) := ⟨⟨by decide +kernel, by decide +kernel⟩, List.mem_of_getElem? (i := 926) (by decide +kernel), List.mem_of_getElem? (i := 1286) (by decide +kernel), List.mem_of_getElem? (i := 1287) (by decide +kernel)⟩
theorem lw_p47 : lw_okq (⟨"IdentityIssuerModel", "inId", "()V"⟩, 52) := ⟨⟨by decide +kernel, by decide +kernel⟩, List.mem_of_getElem? (i := 926) (by decide +kernel), List.mem_of_getElem? (i := 1290) (by decide +kernel), List.mem_of_getElem? (i := 1291) (by decide +kernel)⟩
def lw_privs_3 : List (MethodName × Nat) := [(⟨"IdentityIssuerModel", "lacks", "(II)Z"⟩, 52), (⟨"IdentityIssuerModel", "isGood", "(I)Z"⟩, 52), (⟨"IdentityIssuerModel", "issue", "(II)V"⟩, 52), (⟨"IdentityIssuerModel", "respond", "(II)V"⟩, 52), (⟨"IdentityIssuerModel", "show", "(I)I"⟩, 52), (⟨"IdentityIssuerModel", "foreignFor", "(I)I"⟩, 52), (⟨"IdentityIssuerModel", "news", "(II)Z"⟩, 52), (⟨"IdentityIssuerModel", "make", "(I)V"⟩, 52), (⟨"IdentityIssuerModel", "out", "(I)V"⟩, 52), (⟨"IdentityIssuerModel", "outNumber", "(I)V"⟩, 52), (⟨"IdentityIssuerModel", "secretOf", "(I)J"⟩, 52), (⟨"IdentityIssuerModel", "verified", "()I"⟩, 52), (⟨"IdentityIssuerModel", "in", "(II)I"⟩, 52), (⟨"IdentityIssuerModel", "error", "(I)V"⟩, 52), (⟨"IdentityIssuerModel", "inNumber", "()I"⟩, 52), (⟨"IdentityIssuerModel", "inId", "()V"⟩, 52)]
theorem lw_r3 : ∀ q ∈ lw_privs_3, lw_okq q := List.forall_mem_cons.mpr ⟨lw_p32, List.forall_mem_cons.mpr ⟨lw_p33, List.forall_mem_cons.mpr ⟨lw_p34, List.forall_mem_cons.mpr ⟨lw_p35, List.forall_mem_cons.mpr ⟨lw_p36, List.forall_mem_cons.mpr ⟨lw_p37, List.forall_mem_cons.mpr ⟨lw_p38, List.forall_mem_cons.mpr ⟨lw_p39, List.forall_mem_cons.mpr ⟨lw_p40, List.forall_mem_cons.mpr ⟨lw_p41, List.forall_mem_cons.mpr ⟨lw_p42, List.forall_mem_cons.mpr ⟨lw_p43, List.forall_mem_cons.mpr ⟨lw_p44, List.forall_mem_cons.mpr ⟨lw_p45, List.forall_mem_cons.mpr ⟨lw_p46, List.forall_mem_cons.mpr ⟨lw_p47, fun _ h => absurd h List.not_mem_nil⟩⟩⟩⟩⟩⟩⟩⟩⟩⟩⟩⟩⟩⟩⟩⟩
def lw_privs : List (MethodName × Nat) := lw_privs_1 ++ (lw_privs_2 ++ (lw_privs_3))
def lw_tbl : List Cond := k2_sels lw_privs ++ tables_1
theorem lw_privs_ok : ∀ q ∈ lw_privs, lw_okq q := by
  show ∀ q ∈ lw_privs_1 ++ (lw_privs_2 ++ (lw_privs_3)), lw_okq q
  exact List.forall_mem_append.mpr ⟨lw_r1, List.forall_mem_append.mpr ⟨lw_r2, lw_r3⟩⟩
/-- the words that stay as they are while a program runs -/
def lw_gt : List Cond := lw_tbl.filter goodWord
theorem lw_good (w : Cond) (h : w ∈ lw_gt) : goodWord w = true := (List.mem_filter.mp h).2
theorem lw_in {w : Cond} (i : Nat) (h : lw_tbl[i]? = some w) (g : goodWord w = true) : w ∈ lw_gt := List.mem_filter.mpr ⟨List.mem_of_getElem? h, g⟩
theorem lw_all {ws : List Cond} (h : ∀ w ∈ ws, w ∈ lw_tbl) (g : ws.all goodWord = true) : ∀ w ∈ ws, w ∈ lw_gt := fun w hw => List.mem_filter.mpr ⟨h w hw, List.all_eq_true.mp g w hw⟩
def lw_fN : List (String × Nat × String × String × String × String) := [("IdentityIssuer", 244, "IdentityIssuer$Response", "firstKey", "I", "IdentityIssuer"), ("IdentityIssuer", 247, "IdentityIssuer$Response", "foreign", "I", "IdentityIssuer"), ("IdentityIssuer", 321, "IdentityIssuer$Reader", "error", "I", "IdentityIssuer"), ("IdentityIssuer", 340, "IdentityIssuer$Reader", "serial", "I", "IdentityIssuer"), ("IdentityIssuer", 324, "IdentityIssuer$Reader", "key", "I", "IdentityIssuer"), ("IdentityIssuer", 338, "IdentityIssuer$Reader", "start", "I", "IdentityIssuer"), ("IdentityIssuer", 339, "IdentityIssuer$Reader", "end", "I", "IdentityIssuer"), ("IdentityIssuer", 325, "IdentityIssuer$Reader", "bodyEnd", "I", "IdentityIssuer"), ("IdentityIssuer", 331, "IdentityIssuer$Reader", "signature", "I", "IdentityIssuer"), ("IdentityIssuer$Response", 21, "IdentityIssuer$Agent", "kept", "Ljava/util/ArrayList;", "IdentityIssuer"), ("IdentityIssuer$Entries", 53, "IdentityIssuer$Agent", "selectors", "I", "IdentityIssuer"), ("IdentityIssuer$Response", 61, "IdentityIssuer$Agent", "firstKey", "I", "IdentityIssuer"), ("IdentityIssuer$Response", 65, "IdentityIssuer$Agent", "keyEnd", "I", "IdentityIssuer"), ("IdentityIssuer$Response", 69, "IdentityIssuer$Agent", "foreign", "I", "IdentityIssuer"), ("IdentityIssuer$Writer", 82, "IdentityIssuer", "BODY_TAIL", "[I", "IdentityIssuer"), ("IdentityIssuer$Reader", 51, "IdentityIssuer", "BODY_TAIL", "[I", "IdentityIssuer")]
def lw_mN : List (String × Nat × MethodName × String) := [("IdentityIssuer", 9, ⟨"IdentityIssuer$Bytes", "<init>", "()V"⟩, "IdentityIssuer"), ("IdentityIssuer", 18, ⟨"IdentityIssuer$Ids", "<init>", "()V"⟩, "IdentityIssuer"), ("IdentityIssuer", 25, ⟨"IdentityIssuer$Entries", "<init>", "()V"⟩, "IdentityIssuer"), ("IdentityIssuer", 42, ⟨"IdentityIssuer$Response", "<init>", "()V"⟩, "IdentityIssuer"), ("IdentityIssuer", 49, ⟨"IdentityIssuer$Reader", "<init>", "()V"⟩, "IdentityIssuer"), ("IdentityIssuer$Reader", 11, ⟨"IdentityIssuer$Bytes", "<init>", "()V"⟩, "IdentityIssuer"), ("IdentityIssuer", 56, ⟨"IdentityIssuer$Writer", "<init>", "()V"⟩, "IdentityIssuer"), ("IdentityIssuer$Writer", 11, ⟨"IdentityIssuer$Bytes", "<init>", "()V"⟩, "IdentityIssuer"), ("IdentityIssuer$Watcher", 9, ⟨"IdentityIssuer$Response", "<init>", "()V"⟩, "IdentityIssuer")]
def lw_cN : List (String × String) := [("IdentityIssuer$Entry", "IdentityIssuer$Entry"), ("IdentityIssuer$Agent", "IdentityIssuer$Agent"), ("IdentityIssuer$Certificate", "IdentityIssuer$Certificate"), ("IdentityIssuer$Watcher", "IdentityIssuer$Watcher"), ("IdentityIssuer", "java/lang/Object"), ("IdentityIssuer$Bytes", "java/lang/Object"), ("IdentityIssuer$Ids", "java/lang/Object"), ("IdentityIssuer$Entries", "java/lang/Object"), ("IdentityIssuer$Response", "java/lang/Object"), ("IdentityIssuer$Reader", "java/lang/Object"), ("IdentityIssuer$Writer", "java/lang/Object"), ("IdentityIssuer$Keys", "java/lang/Object"), ("IdentityIssuerModel", "java/lang/Object"), ("IdentityIssuer$Entry", "java/lang/Object"), ("IdentityIssuer$Agent", "java/lang/Object"), ("IdentityIssuer$Certificate", "java/lang/Object"), ("IdentityIssuer$Watcher", "java/lang/Object"), ("java/lang/String", "java/lang/Object")]
def ff_Xi : u_T := fun k => match k with
  | 0 => ("IdentityIssuer", "buffer", "LIdentityIssuer$Bytes;", true)
  | 1 => ("IdentityIssuer", "ids", "LIdentityIssuer$Ids;", true)
  | 2 => ("IdentityIssuer", "keys", "LIdentityIssuer$Keys;", true)
  | 3 => ("IdentityIssuer", "entries", "LIdentityIssuer$Entries;", true)
  | 4 => ("IdentityIssuer", "agents", "Ljava/util/ArrayList;", true)
  | 5 => ("IdentityIssuer", "watchers", "Ljava/util/ArrayList;", true)
  | 6 => ("IdentityIssuer", "latest", "LIdentityIssuer$Response;", true)
  | 7 => ("IdentityIssuer", "reader", "LIdentityIssuer$Reader;", true)
  | 8 => ("IdentityIssuer", "writer", "LIdentityIssuer$Writer;", true)
  | 9 => ("IdentityIssuer", "foreignThere", "I", false)
  | 10 => ("IdentityIssuer", "clock", "I", false)
  | 11 => ("IdentityIssuer", "lastSerial", "I", false)
  | 12 => ("IdentityIssuer", "renewed", "Ljava/util/ArrayList;", true)
  | _ => ("IdentityIssuer", "current", "LIdentityIssuer$Response;", true)
def tt_Xi : Nat → FieldType := fun k => match k with
  | 0 => .object "IdentityIssuer$Bytes"
  | 1 => .object "IdentityIssuer$Ids"
  | 2 => .object "IdentityIssuer$Keys"
  | 3 => .object "IdentityIssuer$Entries"
  | 4 => .object "java/util/ArrayList"
  | 5 => .object "java/util/ArrayList"
  | 6 => .object "IdentityIssuer$Response"
  | 7 => .object "IdentityIssuer$Reader"
  | 8 => .object "IdentityIssuer$Writer"
  | 9 => .int
  | 10 => .int
  | 11 => .int
  | 12 => .object "java/util/ArrayList"
  | _ => .object "IdentityIssuer$Response"
theorem nm_Xi : ∀ a, a < 14 → ∀ b, b < 14 → a ≠ b → (ff_Xi a).2.1 ≠ (ff_Xi b).2.1 := by decide +kernel
theorem ty_Xi : ∀ k, k < 14 → parseFieldDescriptor (ff_Xi k).2.2.1 = some (tt_Xi k) := by decide +kernel
set_option maxRecDepth 100000 in
theorem in_Xi : ∀ w ∈ u_ws "IdentityIssuer" ff_Xi 14, w ∈ lw_gt := lw_all (by decide +kernel) (by decide +kernel)
def ff_By : u_T := fun k => match k with
  | 0 => ("IdentityIssuer$Bytes", "row", "[I", true)
  | _ => ("IdentityIssuer$Bytes", "length", "I", false)
def tt_By : Nat → FieldType := fun k => match k with
  | 0 => .array (.int)
  | _ => .int
theorem nm_By : ∀ a, a < 2 → ∀ b, b < 2 → a ≠ b → (ff_By a).2.1 ≠ (ff_By b).2.1 := by decide +kernel
theorem ty_By : ∀ k, k < 2 → parseFieldDescriptor (ff_By k).2.2.1 = some (tt_By k) := by decide +kernel
set_option maxRecDepth 100000 in
theorem in_By : ∀ w ∈ u_ws "IdentityIssuer$Bytes" ff_By 2, w ∈ lw_gt := lw_all (by decide +kernel) (by decide +kernel)
def ff_Id : u_T := fun k => match k with
  | 0 => ("IdentityIssuer$Ids", "texts", "[[I", true)
  | 1 => ("IdentityIssuer$Ids", "lengths", "[I", true)
  | 2 => ("IdentityIssuer$Ids", "domainEnds", "[I", true)
  | _ => ("IdentityIssuer$Ids", "count", "I", false)
def tt_Id : Nat → FieldType := fun k => match k with
  | 0 => .array (.array (.int))
  | 1 => .array (.int)
  | 2 => .array (.int)
  | _ => .int
theorem nm_Id : ∀ a, a < 4 → ∀ b, b < 4 → a ≠ b → (ff_Id a).2.1 ≠ (ff_Id b).2.1 := by decide +kernel
theorem ty_Id : ∀ k, k < 4 → parseFieldDescriptor (ff_Id k).2.2.1 = some (tt_Id k) := by decide +kernel
set_option maxRecDepth 100000 in
theorem in_Id : ∀ w ∈ u_ws "IdentityIssuer$Ids" ff_Id 4, w ∈ lw_gt := lw_all (by decide +kernel) (by decide +kernel)
def ff_Es : u_T := fun k => match k with
  | 0 => ("IdentityIssuer$Entries", "there", "Ljava/util/ArrayList;", true)
  | _ => ("IdentityIssuer$Entries", "made", "I", false)
def tt_Es : Nat → FieldType := fun k => match k with
  | 0 => .object "java/util/ArrayList"
  | _ => .int
theorem nm_Es : ∀ a, a < 2 → ∀ b, b < 2 → a ≠ b → (ff_Es a).2.1 ≠ (ff_Es b).2.1 := by decide +kernel
theorem ty_Es : ∀ k, k < 2 → parseFieldDescriptor (ff_Es k).2.2.1 = some (tt_Es k) := by decide +kernel
set_option maxRecDepth 100000 in
theorem in_Es : ∀ w ∈ u_ws "IdentityIssuer$Entries" ff_Es 2, w ∈ lw_gt := lw_all (by decide +kernel) (by decide +kernel)
def ff_AL : u_T := fun k => match k with
  | 0 => ("java/util/ArrayList", "elementData", "[Ljava/lang/Object;", false)
  | 1 => ("java/util/ArrayList", "size", "I", false)
  | _ => ("java/util/AbstractList", "modCount", "I", false)
def tt_AL : Nat → FieldType := fun k => match k with
  | 0 => .array (.object "java/lang/Object")
  | 1 => .int
  | _ => .int
theorem nm_AL : ∀ a, a < 3 → ∀ b, b < 3 → a ≠ b → (ff_AL a).2.1 ≠ (ff_AL b).2.1 := by decide +kernel
theorem ty_AL : ∀ k, k < 3 → parseFieldDescriptor (ff_AL k).2.2.1 = some (tt_AL k) := by decide +kernel
set_option maxRecDepth 100000 in
theorem in_AL : ∀ w ∈ u_ws "java/util/ArrayList" ff_AL 3, w ∈ lw_gt := lw_all (by decide +kernel) (by decide +kernel)
def ff_Rs : u_T := fun k => match k with
  | 0 => ("IdentityIssuer$Response", "certificates", "Ljava/util/ArrayList;", true)
  | 1 => ("IdentityIssuer$Response", "firstKey", "I", false)
  | 2 => ("IdentityIssuer$Response", "keyEnd", "I", false)
  | _ => ("IdentityIssuer$Response", "foreign", "I", false)
def tt_Rs : Nat → FieldType := fun k => match k with
  | 0 => .object "java/util/ArrayList"
  | 1 => .int
  | 2 => .int
  | _ => .int
theorem nm_Rs : ∀ a, a < 4 → ∀ b, b < 4 → a ≠ b → (ff_Rs a).2.1 ≠ (ff_Rs b).2.1 := by decide +kernel
theorem ty_Rs : ∀ k, k < 4 → parseFieldDescriptor (ff_Rs k).2.2.1 = some (tt_Rs k) := by decide +kernel
set_option maxRecDepth 100000 in
theorem in_Rs : ∀ w ∈ u_ws "IdentityIssuer$Response" ff_Rs 4, w ∈ lw_gt := lw_all (by decide +kernel) (by decide +kernel)
def ff_Rd : u_T := fun k => match k with
  | 0 => ("IdentityIssuer$Reader", "bytes", "LIdentityIssuer$Bytes;", false)
  | 1 => ("IdentityIssuer$Reader", "place", "I", false)
  | 2 => ("IdentityIssuer$Reader", "error", "I", false)
  | 3 => ("IdentityIssuer$Reader", "serial", "I", false)
  | 4 => ("IdentityIssuer$Reader", "key", "I", false)
  | 5 => ("IdentityIssuer$Reader", "start", "I", false)
  | 6 => ("IdentityIssuer$Reader", "end", "I", false)
  | 7 => ("IdentityIssuer$Reader", "bodyEnd", "I", false)
  | _ => ("IdentityIssuer$Reader", "signature", "I", false)
def tt_Rd : Nat → FieldType := fun k => match k with
  | 0 => .object "IdentityIssuer$Bytes"
  | 1 => .int
  | 2 => .int
  | 3 => .int
  | 4 => .int
  | 5 => .int
  | 6 => .int
  | 7 => .int
  | _ => .int
theorem nm_Rd : ∀ a, a < 9 → ∀ b, b < 9 → a ≠ b → (ff_Rd a).2.1 ≠ (ff_Rd b).2.1 := by decide +kernel
theorem ty_Rd : ∀ k, k < 9 → parseFieldDescriptor (ff_Rd k).2.2.1 = some (tt_Rd k) := by decide +kernel
set_option maxRecDepth 100000 in
theorem in_Rd : ∀ w ∈ u_ws "IdentityIssuer$Reader" ff_Rd 9, w ∈ lw_gt := lw_all (by decide +kernel) (by decide +kernel)
def ff_Wr : u_T := fun k => match k with
  | 0 => ("IdentityIssuer$Writer", "bytes", "LIdentityIssuer$Bytes;", true)
  | _ => ("IdentityIssuer$Writer", "writtenSerial", "I", false)
def tt_Wr : Nat → FieldType := fun k => match k with
  | 0 => .object "IdentityIssuer$Bytes"
  | _ => .int
theorem nm_Wr : ∀ a, a < 2 → ∀ b, b < 2 → a ≠ b → (ff_Wr a).2.1 ≠ (ff_Wr b).2.1 := by decide +kernel
theorem ty_Wr : ∀ k, k < 2 → parseFieldDescriptor (ff_Wr k).2.2.1 = some (tt_Wr k) := by decide +kernel
set_option maxRecDepth 100000 in
theorem in_Wr : ∀ w ∈ u_ws "IdentityIssuer$Writer" ff_Wr 2, w ∈ lw_gt := lw_all (by decide +kernel) (by decide +kernel)
def ff_Ky : u_T := fun k => match k with
  | 0 => ("IdentityIssuer$Keys", "life", "I", true)
  | 1 => ("IdentityIssuer$Keys", "madeAt", "[I", true)
  | 2 => ("IdentityIssuer$Keys", "count", "I", false)
  | 3 => ("IdentityIssuer$Keys", "active", "I", false)
  | _ => ("IdentityIssuer$Keys", "prepared", "I", false)
def tt_Ky : Nat → FieldType := fun k => match k with
  | 0 => .int
  | 1 => .array (.int)
  | 2 => .int
  | 3 => .int
  | _ => .int
theorem nm_Ky : ∀ a, a < 5 → ∀ b, b < 5 → a ≠ b → (ff_Ky a).2.1 ≠ (ff_Ky b).2.1 := by decide +kernel
theorem ty_Ky : ∀ k, k < 5 → parseFieldDescriptor (ff_Ky k).2.2.1 = some (tt_Ky k) := by decide +kernel
set_option maxRecDepth 100000 in
theorem in_Ky : ∀ w ∈ u_ws "IdentityIssuer$Keys" ff_Ky 5, w ∈ lw_gt := lw_all (by decide +kernel) (by decide +kernel)
def ff_En : u_T := fun k => match k with
  | 0 => ("IdentityIssuer$Entry", "number", "I", true)
  | 1 => ("IdentityIssuer$Entry", "id", "I", true)
  | 2 => ("IdentityIssuer$Entry", "parent", "I", true)
  | 3 => ("IdentityIssuer$Entry", "selectors", "I", true)
  | 4 => ("IdentityIssuer$Entry", "ttl", "I", true)
  | _ => ("IdentityIssuer$Entry", "friends", "I", true)
def tt_En : Nat → FieldType := fun k => match k with
  | 0 => .int
  | 1 => .int
  | 2 => .int
  | 3 => .int
  | 4 => .int
  | _ => .int
theorem nm_En : ∀ a, a < 6 → ∀ b, b < 6 → a ≠ b → (ff_En a).2.1 ≠ (ff_En b).2.1 := by decide +kernel
theorem ty_En : ∀ k, k < 6 → parseFieldDescriptor (ff_En k).2.2.1 = some (tt_En k) := by decide +kernel
set_option maxRecDepth 100000 in
theorem in_En : ∀ w ∈ u_ws "IdentityIssuer$Entry" ff_En 6, w ∈ lw_gt := lw_all (by decide +kernel) (by decide +kernel)
def ff_Ag : u_T := fun k => match k with
  | 0 => ("IdentityIssuer$Agent", "id", "I", true)
  | 1 => ("IdentityIssuer$Agent", "kept", "Ljava/util/ArrayList;", true)
  | 2 => ("IdentityIssuer$Agent", "selectors", "I", false)
  | 3 => ("IdentityIssuer$Agent", "firstKey", "I", false)
  | 4 => ("IdentityIssuer$Agent", "keyEnd", "I", false)
  | _ => ("IdentityIssuer$Agent", "foreign", "I", false)
def tt_Ag : Nat → FieldType := fun k => match k with
  | 0 => .int
  | 1 => .object "java/util/ArrayList"
  | 2 => .int
  | 3 => .int
  | 4 => .int
  | _ => .int
theorem nm_Ag : ∀ a, a < 6 → ∀ b, b < 6 → a ≠ b → (ff_Ag a).2.1 ≠ (ff_Ag b).2.1 := by decide +kernel
theorem ty_Ag : ∀ k, k < 6 → parseFieldDescriptor (ff_Ag k).2.2.1 = some (tt_Ag k) := by decide +kernel
set_option maxRecDepth 100000 in
theorem in_Ag : ∀ w ∈ u_ws "IdentityIssuer$Agent" ff_Ag 6, w ∈ lw_gt := lw_all (by decide +kernel) (by decide +kernel)
def ff_Ce : u_T := fun k => match k with
  | 0 => ("IdentityIssuer$Certificate", "entry", "LIdentityIssuer$Entry;", true)
  | 1 => ("IdentityIssuer$Certificate", "serial", "I", true)
  | 2 => ("IdentityIssuer$Certificate", "key", "I", true)
  | 3 => ("IdentityIssuer$Certificate", "start", "I", true)
  | _ => ("IdentityIssuer$Certificate", "end", "I", true)
def tt_Ce : Nat → FieldType := fun k => match k with
  | 0 => .object "IdentityIssuer$Entry"
  | 1 => .int
  | 2 => .int
  | 3 => .int
  | _ => .int
theorem nm_Ce : ∀ a, a < 5 → ∀ b, b < 5 → a ≠ b → (ff_Ce a).2.1 ≠ (ff_Ce b).2.1 := by decide +kernel
theorem ty_Ce : ∀ k, k < 5 → parseFieldDescriptor (ff_Ce k).2.2.1 = some (tt_Ce k) := by decide +kernel
set_option maxRecDepth 100000 in
theorem in_Ce : ∀ w ∈ u_ws "IdentityIssuer$Certificate" ff_Ce 5, w ∈ lw_gt := lw_all (by decide +kernel) (by decide +kernel)
def ff_Wa : u_T := fun k => match k with
  | 0 => ("IdentityIssuer$Watcher", "agent", "LIdentityIssuer$Agent;", true)
  | 1 => ("IdentityIssuer$Watcher", "selectors", "I", true)
  | 2 => ("IdentityIssuer$Watcher", "last", "LIdentityIssuer$Response;", true)
  | _ => ("IdentityIssuer$Watcher", "told", "Z", false)
def tt_Wa : Nat → FieldType := fun k => match k with
  | 0 => .object "IdentityIssuer$Agent"
  | 1 => .int
  | 2 => .object "IdentityIssuer$Response"
  | _ => .boolean
theorem nm_Wa : ∀ a, a < 4 → ∀ b, b < 4 → a ≠ b → (ff_Wa a).2.1 ≠ (ff_Wa b).2.1 := by decide +kernel
theorem ty_Wa : ∀ k, k < 4 → parseFieldDescriptor (ff_Wa k).2.2.1 = some (tt_Wa k) := by decide +kernel
set_option maxRecDepth 100000 in
theorem in_Wa : ∀ w ∈ u_ws "IdentityIssuer$Watcher" ff_Wa 4, w ∈ lw_gt := lw_all (by decide +kernel) (by decide +kernel)
def ff_Mo : u_T := fun k => match k with
  | 0 => ("IdentityIssuerModel", "life", "I", true)
  | 1 => ("IdentityIssuerModel", "clock", "I", false)
  | 2 => ("IdentityIssuerModel", "buffer", "[I", true)
  | 3 => ("IdentityIssuerModel", "size", "I", false)
  | 4 => ("IdentityIssuerModel", "ids", "I", false)
  | 5 => ("IdentityIssuerModel", "text", "[I", true)
  | 6 => ("IdentityIssuerModel", "idSize", "[I", true)
  | 7 => ("IdentityIssuerModel", "domain", "[I", true)
  | 8 => ("IdentityIssuerModel", "domainEnd", "I", false)
  | 9 => ("IdentityIssuerModel", "keys", "I", false)
  | 10 => ("IdentityIssuerModel", "made", "[I", true)
  | 11 => ("IdentityIssuerModel", "active", "I", false)
  | 12 => ("IdentityIssuerModel", "prepared", "I", false)
  | 13 => ("IdentityIssuerModel", "secret", "[J", true)
  | 14 => ("IdentityIssuerModel", "serials", "I", false)
  | 15 => ("IdentityIssuerModel", "entries", "I", false)
  | 16 => ("IdentityIssuerModel", "there", "[Z", true)
  | 17 => ("IdentityIssuerModel", "entryId", "[I", true)
  | 18 => ("IdentityIssuerModel", "parent", "[I", true)
  | 19 => ("IdentityIssuerModel", "selectors", "[I", true)
  | 20 => ("IdentityIssuerModel", "ttl", "[I", true)
  | 21 => ("IdentityIssuerModel", "friendsOf", "[I", true)
  | 22 => ("IdentityIssuerModel", "foreigns", "I", false)
  | 23 => ("IdentityIssuerModel", "agents", "I", false)
  | 24 => ("IdentityIssuerModel", "agentId", "[I", true)
  | 25 => ("IdentityIssuerModel", "agentSelectors", "[I", true)
  | 26 => ("IdentityIssuerModel", "serial", "[I", true)
  | 27 => ("IdentityIssuerModel", "keyOf", "[I", true)
  | 28 => ("IdentityIssuerModel", "start", "[I", true)
  | 29 => ("IdentityIssuerModel", "end", "[I", true)
  | 30 => ("IdentityIssuerModel", "keptKeys", "[I", true)
  | 31 => ("IdentityIssuerModel", "keptMany", "[I", true)
  | 32 => ("IdentityIssuerModel", "keptForeign", "[I", true)
  | 33 => ("IdentityIssuerModel", "watchers", "I", false)
  | 34 => ("IdentityIssuerModel", "watched", "[I", true)
  | 35 => ("IdentityIssuerModel", "watchedFor", "[I", true)
  | 36 => ("IdentityIssuerModel", "gotMany", "[I", true)
  | 37 => ("IdentityIssuerModel", "gotSerial", "[I", true)
  | 38 => ("IdentityIssuerModel", "gotKeys", "[I", true)
  | 39 => ("IdentityIssuerModel", "gotKey", "[I", true)
  | 40 => ("IdentityIssuerModel", "gotForeign", "[I", true)
  | 41 => ("IdentityIssuerModel", "latest", "I", false)
  | 42 => ("IdentityIssuerModel", "five", "[I", true)
  | 43 => ("IdentityIssuerModel", "latestKeys", "I", false)
  | 44 => ("IdentityIssuerModel", "latestKey", "[I", true)
  | 45 => ("IdentityIssuerModel", "latestForeign", "I", false)
  | 46 => ("IdentityIssuerModel", "many", "I", false)
  | 47 => ("IdentityIssuerModel", "found", "[I", true)
  | 48 => ("IdentityIssuerModel", "length", "I", false)
  | 49 => ("IdentityIssuerModel", "bytes", "[I", true)
  | 50 => ("IdentityIssuerModel", "at", "I", false)
  | _ => ("IdentityIssuerModel", "wrong", "I", false)
def tt_Mo : Nat → FieldType := fun k => match k with
  | 0 => .int
  | 1 => .int
  | 2 => .array (.int)
  | 3 => .int
  | 4 => .int
  | 5 => .array (.int)
  | 6 => .array (.int)
  | 7 => .array (.int)
  | 8 => .int
  | 9 => .int
  | 10 => .array (.int)
  | 11 => .int
  | 12 => .int
  | 13 => .array (.long)
  | 14 => .int
  | 15 => .int
  | 16 => .array (.boolean)
  | 17 => .array (.int)
  | 18 => .array (.int)
  | 19 => .array (.int)
  | 20 => .array (.int)
  | 21 => .array (.int)
  | 22 => .int
  | 23 => .int
  | 24 => .array (.int)
  | 25 => .array (.int)
  | 26 => .array (.int)
  | 27 => .array (.int)
  | 28 => .array (.int)
  | 29 => .array (.int)
  | 30 => .array (.int)
  | 31 => .array (.int)
  | 32 => .array (.int)
  | 33 => .int
  | 34 => .array (.int)
  | 35 => .array (.int)
  | 36 => .array (.int)
  | 37 => .array (.int)
  | 38 => .array (.int)
  | 39 => .array (.int)
  | 40 => .array (.int)
  | 41 => .int
  | 42 => .array (.int)
  | 43 => .int
  | 44 => .array (.int)
  | 45 => .int
  | 46 => .int
  | 47 => .array (.int)
  | 48 => .int
  | 49 => .array (.int)
  | 50 => .int
  | _ => .int
theorem nm_Mo : ∀ a, a < 52 → ∀ b, b < 52 → a ≠ b → (ff_Mo a).2.1 ≠ (ff_Mo b).2.1 := by decide +kernel
theorem ty_Mo : ∀ k, k < 52 → parseFieldDescriptor (ff_Mo k).2.2.1 = some (tt_Mo k) := by decide +kernel
set_option maxRecDepth 100000 in
theorem in_Mo : ∀ w ∈ u_ws "IdentityIssuerModel" ff_Mo 52, w ∈ lw_gt := lw_all (by decide +kernel) (by decide +kernel)
abbrev bb_Xi_init : ByteArray := prog_1_method_1_code
def yy_Xi_init : MethodName := ⟨"IdentityIssuer", "<init>", "(I)V"⟩
abbrev bb_Ob_init : ByteArray := object_method_1_code
def yy_Ob_init : MethodName := ⟨"java/lang/Object", "<init>", "()V"⟩
abbrev bb_By_init : ByteArray := prog_3_method_1_code
def yy_By_init : MethodName := ⟨"IdentityIssuer$Bytes", "<init>", "()V"⟩
abbrev bb_Id_init : ByteArray := prog_7_method_1_code
def yy_Id_init : MethodName := ⟨"IdentityIssuer$Ids", "<init>", "()V"⟩
abbrev bb_Es_init : ByteArray := prog_5_method_1_code
def yy_Es_init : MethodName := ⟨"IdentityIssuer$Entries", "<init>", "()V"⟩
abbrev bb_AL_init : ByteArray := prog_25_method_2_code
def yy_AL_init : MethodName := ⟨"java/util/ArrayList", "<init>", "()V"⟩
abbrev bb_Ab_init : ByteArray := prog_24_method_1_code
def yy_Ab_init : MethodName := ⟨"java/util/AbstractList", "<init>", "()V"⟩
abbrev bb_Ac_init : ByteArray := prog_23_method_1_code
def yy_Ac_init : MethodName := ⟨"java/util/AbstractCollection", "<init>", "()V"⟩
abbrev bb_Rs_init : ByteArray := prog_10_method_1_code
def yy_Rs_init : MethodName := ⟨"IdentityIssuer$Response", "<init>", "()V"⟩
abbrev bb_Rd_init : ByteArray := prog_9_method_1_code
def yy_Rd_init : MethodName := ⟨"IdentityIssuer$Reader", "<init>", "()V"⟩
abbrev bb_Wr_init : ByteArray := prog_12_method_1_code
def yy_Wr_init : MethodName := ⟨"IdentityIssuer$Writer", "<init>", "()V"⟩
abbrev bb_Ma_min : ByteArray := prog_18_method_69_code
def yy_Ma_min : MethodName := ⟨"java/lang/Math", "min", "(II)I"⟩
abbrev bb_Ma_max : ByteArray := prog_18_method_65_code
def yy_Ma_max : MethodName := ⟨"java/lang/Math", "max", "(II)I"⟩
abbrev bb_Ky_init : ByteArray := prog_8_method_1_code
def yy_Ky_init : MethodName := ⟨"IdentityIssuer$Keys", "<init>", "(I)V"⟩
abbrev bb_Xi_put : ByteArray := prog_1_method_2_code
def yy_Xi_put : MethodName := ⟨"IdentityIssuer", "put", "(II)Z"⟩
abbrev bb_By_length : ByteArray := prog_3_method_2_code
def yy_By_length : MethodName := ⟨"IdentityIssuer$Bytes", "length", "()I"⟩
abbrev bb_By_append : ByteArray := prog_3_method_5_code
def yy_By_append : MethodName := ⟨"IdentityIssuer$Bytes", "append", "(I)V"⟩
abbrev bb_Xi_id : ByteArray := prog_1_method_3_code
def yy_Xi_id : MethodName := ⟨"IdentityIssuer", "id", "()I"⟩
abbrev bb_Xi_numberOfText : ByteArray := prog_1_method_20_code
def yy_Xi_numberOfText : MethodName := ⟨"IdentityIssuer", "numberOfText", "()I"⟩
abbrev bb_Id_firstError : ByteArray := prog_7_method_2_code
def yy_Id_firstError : MethodName := ⟨"IdentityIssuer$Ids", "firstError", "(LIdentityIssuer$Bytes;II)I"⟩
abbrev bb_Id_schemeError : ByteArray := prog_7_method_3_code
def yy_Id_schemeError : MethodName := ⟨"IdentityIssuer$Ids", "schemeError", "(LIdentityIssuer$Bytes;II)I"⟩
abbrev bb_St_length : ByteArray := prog_19_method_54_code
def yy_St_length : MethodName := ⟨"java/lang/String", "length", "()I"⟩
abbrev bb_St_coder : ByteArray := prog_19_method_152_code
def yy_St_coder : MethodName := ⟨"java/lang/String", "coder", "()B"⟩
abbrev bb_By_at : ByteArray := prog_3_method_4_code
def yy_By_at : MethodName := ⟨"IdentityIssuer$Bytes", "at", "(I)I"⟩
abbrev bb_St_charAt : ByteArray := prog_19_method_56_code
def yy_St_charAt : MethodName := ⟨"java/lang/String", "charAt", "(I)C"⟩
abbrev bb_St_isLatin1 : ByteArray := prog_19_method_154_code
def yy_St_isLatin1 : MethodName := ⟨"java/lang/String", "isLatin1", "()Z"⟩
abbrev bb_SL_charAt : ByteArray := prog_20_method_2_code
def yy_SL_charAt : MethodName := ⟨"java/lang/StringLatin1", "charAt", "([BI)C"⟩
abbrev bb_St_checkIndex : ByteArray := prog_19_method_155_code
def yy_St_checkIndex : MethodName := ⟨"java/lang/String", "checkIndex", "(II)V"⟩
abbrev bb_Pr_checkIndex : ByteArray := prog_33_method_11_code
def yy_Pr_checkIndex : MethodName := ⟨"jdk/internal/util/Preconditions", "checkIndex", "(IILjava/util/function/BiFunction;)I"⟩
abbrev bb_SU_charAt : ByteArray := prog_21_method_83_code
def yy_SU_charAt : MethodName := ⟨"java/lang/StringUTF16", "charAt", "([BI)C"⟩
abbrev bb_SU_checkIndex : ByteArray := prog_21_method_91_code
def yy_SU_checkIndex : MethodName := ⟨"java/lang/StringUTF16", "checkIndex", "(I[B)V"⟩
abbrev bb_SU_length : ByteArray := prog_21_method_6_code
def yy_SU_length : MethodName := ⟨"java/lang/StringUTF16", "length", "([B)I"⟩
abbrev bb_SU_getChar : ByteArray := prog_21_method_5_code
def yy_SU_getChar : MethodName := ⟨"java/lang/StringUTF16", "getChar", "([BI)C"⟩
abbrev bb_Id_domainEnd : ByteArray := prog_7_method_4_code
def yy_Id_domainEnd : MethodName := ⟨"IdentityIssuer$Ids", "domainEnd", "(LIdentityIssuer$Bytes;II)I"⟩
abbrev bb_Id_isNameCharacter : ByteArray := prog_7_method_7_code
def yy_Id_isNameCharacter : MethodName := ⟨"IdentityIssuer$Ids", "isNameCharacter", "(IZ)Z"⟩
abbrev bb_Id_pathError : ByteArray := prog_7_method_5_code
def yy_Id_pathError : MethodName := ⟨"IdentityIssuer$Ids", "pathError", "(LIdentityIssuer$Bytes;II)I"⟩
abbrev bb_Id_isSegment : ByteArray := prog_7_method_6_code
def yy_Id_isSegment : MethodName := ⟨"IdentityIssuer$Ids", "isSegment", "(LIdentityIssuer$Bytes;II)Z"⟩
abbrev bb_Id_find : ByteArray := prog_7_method_10_code
def yy_Id_find : MethodName := ⟨"IdentityIssuer$Ids", "find", "(LIdentityIssuer$Bytes;)I"⟩
abbrev bb_Id_isText : ByteArray := prog_7_method_11_code
def yy_Id_isText : MethodName := ⟨"IdentityIssuer$Ids", "isText", "(ILIdentityIssuer$Bytes;)Z"⟩
abbrev bb_Id_isFull : ByteArray := prog_7_method_9_code
def yy_Id_isFull : MethodName := ⟨"IdentityIssuer$Ids", "isFull", "()Z"⟩
abbrev bb_Id_add : ByteArray := prog_7_method_12_code
def yy_Id_add : MethodName := ⟨"IdentityIssuer$Ids", "add", "(LIdentityIssuer$Bytes;)I"⟩
abbrev bb_By_clear : ByteArray := prog_3_method_3_code
def yy_By_clear : MethodName := ⟨"IdentityIssuer$Bytes", "clear", "()V"⟩
abbrev bb_Xi_entry : ByteArray := prog_1_method_4_code
def yy_Xi_entry : MethodName := ⟨"IdentityIssuer", "entry", "(IIIII)I"⟩
abbrev bb_Id_isThere : ByteArray := prog_7_method_8_code
def yy_Id_isThere : MethodName := ⟨"IdentityIssuer$Ids", "isThere", "(I)Z"⟩
abbrev bb_Id_mayBeHeld : ByteArray := prog_7_method_14_code
def yy_Id_mayBeHeld : MethodName := ⟨"IdentityIssuer$Ids", "mayBeHeld", "(I)Z"⟩
abbrev bb_Id_isOurs : ByteArray := prog_7_method_15_code
def yy_Id_isOurs : MethodName := ⟨"IdentityIssuer$Ids", "isOurs", "(I)Z"⟩
abbrev bb_Es_isFull : ByteArray := prog_5_method_4_code
def yy_Es_isFull : MethodName := ⟨"IdentityIssuer$Entries", "isFull", "()Z"⟩
abbrev bb_AL_size : ByteArray := prog_25_method_8_code
def yy_AL_size : MethodName := ⟨"java/util/ArrayList", "size", "()I"⟩
abbrev bb_Es_make : ByteArray := prog_5_method_5_code
def yy_Es_make : MethodName := ⟨"IdentityIssuer$Entries", "make", "(IIIII)I"⟩
abbrev bb_En_init : ByteArray := prog_6_method_1_code
def yy_En_init : MethodName := ⟨"IdentityIssuer$Entry", "<init>", "(IIIIII)V"⟩
abbrev bb_AL_add : ByteArray := prog_25_method_25_code
def yy_AL_add : MethodName := ⟨"java/util/ArrayList", "add", "(Ljava/lang/Object;)Z"⟩
abbrev bb_AL_add2 : ByteArray := prog_25_method_24_code
def yy_AL_add2 : MethodName := ⟨"java/util/ArrayList", "add", "(Ljava/lang/Object;[Ljava/lang/Object;I)V"⟩
abbrev bb_AL_grow : ByteArray := prog_25_method_7_code
def yy_AL_grow : MethodName := ⟨"java/util/ArrayList", "grow", "()[Ljava/lang/Object;"⟩
abbrev bb_AL_grow2 : ByteArray := prog_25_method_6_code
def yy_AL_grow2 : MethodName := ⟨"java/util/ArrayList", "grow", "(I)[Ljava/lang/Object;"⟩
abbrev bb_AS_newLength : ByteArray := prog_32_method_27_code
def yy_AS_newLength : MethodName := ⟨"jdk/internal/util/ArraysSupport", "newLength", "(III)I"⟩
abbrev bb_AS_hugeLength : ByteArray := prog_32_method_28_code
def yy_AS_hugeLength : MethodName := ⟨"jdk/internal/util/ArraysSupport", "hugeLength", "(II)I"⟩
abbrev bb_Ar_copyOf : ByteArray := prog_26_method_119_code
def yy_Ar_copyOf : MethodName := ⟨"java/util/Arrays", "copyOf", "([Ljava/lang/Object;I)[Ljava/lang/Object;"⟩
abbrev bb_Ar_copyOf2 : ByteArray := prog_26_method_120_code
def yy_Ar_copyOf2 : MethodName := ⟨"java/util/Arrays", "copyOf", "([Ljava/lang/Object;ILjava/lang/Class;)[Ljava/lang/Object;"⟩
abbrev bb_Xi_remove : ByteArray := prog_1_method_5_code
def yy_Xi_remove : MethodName := ⟨"IdentityIssuer", "remove", "(I)Z"⟩
abbrev bb_Es_drop : ByteArray := prog_5_method_6_code
def yy_Es_drop : MethodName := ⟨"IdentityIssuer$Entries", "drop", "(I)Z"⟩
abbrev bb_AL_get : ByteArray := prog_25_method_20_code
def yy_AL_get : MethodName := ⟨"java/util/ArrayList", "get", "(I)Ljava/lang/Object;"⟩
abbrev bb_Oj_checkIndex : ByteArray := prog_29_method_17_code
def yy_Oj_checkIndex : MethodName := ⟨"java/util/Objects", "checkIndex", "(II)I"⟩
abbrev bb_AL_elementData : ByteArray := prog_25_method_18_code
def yy_AL_elementData : MethodName := ⟨"java/util/ArrayList", "elementData", "(I)Ljava/lang/Object;"⟩
abbrev bb_AL_remove : ByteArray := prog_25_method_29_code
def yy_AL_remove : MethodName := ⟨"java/util/ArrayList", "remove", "(I)Ljava/lang/Object;"⟩
abbrev bb_AL_fastRemove : ByteArray := prog_25_method_39_code
def yy_AL_fastRemove : MethodName := ⟨"java/util/ArrayList", "fastRemove", "([Ljava/lang/Object;I)V"⟩
abbrev bb_Xi_foreign : ByteArray := prog_1_method_6_code
def yy_Xi_foreign : MethodName := ⟨"IdentityIssuer", "foreign", "(IZ)Z"⟩
abbrev bb_Xi_attest : ByteArray := prog_1_method_7_code
def yy_Xi_attest : MethodName := ⟨"IdentityIssuer", "attest", "(II)I"⟩
abbrev bb_Xi_agentWith : ByteArray := prog_1_method_22_code
def yy_Xi_agentWith : MethodName := ⟨"IdentityIssuer", "agentWith", "(I)I"⟩
abbrev bb_Xi_addAgent : ByteArray := prog_1_method_23_code
def yy_Xi_addAgent : MethodName := ⟨"IdentityIssuer", "addAgent", "(II)I"⟩
abbrev bb_Ag_init : ByteArray := prog_2_method_1_code
def yy_Ag_init : MethodName := ⟨"IdentityIssuer$Agent", "<init>", "(II)V"⟩
abbrev bb_Ag_attestAgain : ByteArray := prog_2_method_2_code
def yy_Ag_attestAgain : MethodName := ⟨"IdentityIssuer$Agent", "attestAgain", "(I)V"⟩
abbrev bb_AL_clear : ByteArray := prog_25_method_40_code
def yy_AL_clear : MethodName := ⟨"java/util/ArrayList", "clear", "()V"⟩
abbrev bb_Ag_keepBundles : ByteArray := prog_2_method_4_code
def yy_Ag_keepBundles : MethodName := ⟨"IdentityIssuer$Agent", "keepBundles", "(III)V"⟩
abbrev bb_Xi_sync : ByteArray := prog_1_method_8_code
def yy_Xi_sync : MethodName := ⟨"IdentityIssuer", "sync", "(I)I"⟩
abbrev bb_Xi_isAgent : ByteArray := prog_1_method_21_code
def yy_Xi_isAgent : MethodName := ⟨"IdentityIssuer", "isAgent", "(I)Z"⟩
abbrev bb_Es_reachOf : ByteArray := prog_5_method_7_code
def yy_Es_reachOf : MethodName := ⟨"IdentityIssuer$Entries", "reachOf", "(LIdentityIssuer$Agent;)I"⟩
abbrev bb_En_isSelectedBy : ByteArray := prog_6_method_3_code
def yy_En_isSelectedBy : MethodName := ⟨"IdentityIssuer$Entry", "isSelectedBy", "(I)Z"⟩
abbrev bb_Es_withChildren : ByteArray := prog_5_method_8_code
def yy_Es_withChildren : MethodName := ⟨"IdentityIssuer$Entries", "withChildren", "(I)I"⟩
abbrev bb_En_isEntitled : ByteArray := prog_6_method_2_code
def yy_En_isEntitled : MethodName := ⟨"IdentityIssuer$Entry", "isEntitled", "(I)Z"⟩
abbrev bb_Xi_countDue : ByteArray := prog_1_method_24_code
def yy_Xi_countDue : MethodName := ⟨"IdentityIssuer", "countDue", "(LIdentityIssuer$Agent;I)I"⟩
abbrev bb_Es_size : ByteArray := prog_5_method_2_code
def yy_Es_size : MethodName := ⟨"IdentityIssuer$Entries", "size", "()I"⟩
abbrev bb_Es_at : ByteArray := prog_5_method_3_code
def yy_Es_at : MethodName := ⟨"IdentityIssuer$Entries", "at", "(I)LIdentityIssuer$Entry;"⟩
abbrev bb_Ag_fresh : ByteArray := prog_2_method_5_code
def yy_Ag_fresh : MethodName := ⟨"IdentityIssuer$Agent", "fresh", "(LIdentityIssuer$Entry;I)LIdentityIssuer$Certificate;"⟩
abbrev bb_Ky_active : ByteArray := prog_8_method_2_code
def yy_Ky_active : MethodName := ⟨"IdentityIssuer$Keys", "active", "()I"⟩
abbrev bb_Ky_isGood : ByteArray := prog_8_method_4_code
def yy_Ky_isGood : MethodName := ⟨"IdentityIssuer$Keys", "isGood", "(II)Z"⟩
abbrev bb_Ky_endOf : ByteArray := prog_8_method_5_code
def yy_Ky_endOf : MethodName := ⟨"IdentityIssuer$Keys", "endOf", "(I)I"⟩
abbrev bb_Xi_renew : ByteArray := prog_1_method_25_code
def yy_Xi_renew : MethodName := ⟨"IdentityIssuer", "renew", "(LIdentityIssuer$Agent;I)V"⟩
abbrev bb_Xi_issue : ByteArray := prog_1_method_26_code
def yy_Xi_issue : MethodName := ⟨"IdentityIssuer", "issue", "(LIdentityIssuer$Entry;)LIdentityIssuer$Certificate;"⟩
abbrev bb_Ce_init : ByteArray := prog_4_method_1_code
def yy_Ce_init : MethodName := ⟨"IdentityIssuer$Certificate", "<init>", "(LIdentityIssuer$Entry;IIII)V"⟩
abbrev bb_Ag_keepCertificates : ByteArray := prog_2_method_3_code
def yy_Ag_keepCertificates : MethodName := ⟨"IdentityIssuer$Agent", "keepCertificates", "(Ljava/util/ArrayList;)V"⟩
abbrev bb_Ky_firstGood : ByteArray := prog_8_method_6_code
def yy_Ky_firstGood : MethodName := ⟨"IdentityIssuer$Keys", "firstGood", "(I)I"⟩
abbrev bb_Ky_count : ByteArray := prog_8_method_3_code
def yy_Ky_count : MethodName := ⟨"IdentityIssuer$Keys", "count", "()I"⟩
abbrev bb_Xi_fetch : ByteArray := prog_1_method_9_code
def yy_Xi_fetch : MethodName := ⟨"IdentityIssuer", "fetch", "(II)I"⟩
abbrev bb_Rs_fill : ByteArray := prog_10_method_2_code
def yy_Rs_fill : MethodName := ⟨"IdentityIssuer$Response", "fill", "(LIdentityIssuer$Agent;II)V"⟩
abbrev bb_AL_isEmpty : ByteArray := prog_25_method_9_code
def yy_AL_isEmpty : MethodName := ⟨"java/util/ArrayList", "isEmpty", "()Z"⟩
abbrev bb_Rs_answer : ByteArray := prog_10_method_5_code
def yy_Rs_answer : MethodName := ⟨"IdentityIssuer$Response", "answer", "()I"⟩
abbrev bb_Xi_watch : ByteArray := prog_1_method_10_code
def yy_Xi_watch : MethodName := ⟨"IdentityIssuer", "watch", "(II)I"⟩
abbrev bb_Wa_init : ByteArray := prog_11_method_1_code
def yy_Wa_init : MethodName := ⟨"IdentityIssuer$Watcher", "<init>", "(LIdentityIssuer$Agent;I)V"⟩
abbrev bb_Xi_poll : ByteArray := prog_1_method_11_code
def yy_Xi_poll : MethodName := ⟨"IdentityIssuer", "poll", "(I)I"⟩
abbrev bb_Wa_hasGot : ByteArray := prog_11_method_2_code
def yy_Wa_hasGot : MethodName := ⟨"IdentityIssuer$Watcher", "hasGot", "(LIdentityIssuer$Response;)Z"⟩
abbrev bb_Rs_isLike : ByteArray := prog_10_method_4_code
def yy_Rs_isLike : MethodName := ⟨"IdentityIssuer$Response", "isLike", "(LIdentityIssuer$Response;)Z"⟩
abbrev bb_Wa_take : ByteArray := prog_11_method_3_code
def yy_Wa_take : MethodName := ⟨"IdentityIssuer$Watcher", "take", "(LIdentityIssuer$Response;)V"⟩
abbrev bb_Rs_copy : ByteArray := prog_10_method_3_code
def yy_Rs_copy : MethodName := ⟨"IdentityIssuer$Response", "copy", "(LIdentityIssuer$Response;)V"⟩
abbrev bb_Xi_svid : ByteArray := prog_1_method_12_code
def yy_Xi_svid : MethodName := ⟨"IdentityIssuer", "svid", "(II)I"⟩
abbrev bb_Rs_hasCertificate : ByteArray := prog_10_method_6_code
def yy_Rs_hasCertificate : MethodName := ⟨"IdentityIssuer$Response", "hasCertificate", "(I)Z"⟩
abbrev bb_Rs_certificate : ByteArray := prog_10_method_7_code
def yy_Rs_certificate : MethodName := ⟨"IdentityIssuer$Response", "certificate", "(I)LIdentityIssuer$Certificate;"⟩
abbrev bb_Xi_key : ByteArray := prog_1_method_13_code
def yy_Xi_key : MethodName := ⟨"IdentityIssuer", "key", "(I)I"⟩
abbrev bb_Rs_keyCount : ByteArray := prog_10_method_8_code
def yy_Rs_keyCount : MethodName := ⟨"IdentityIssuer$Response", "keyCount", "()I"⟩
abbrev bb_Xi_friends : ByteArray := prog_1_method_14_code
def yy_Xi_friends : MethodName := ⟨"IdentityIssuer", "friends", "()I"⟩
abbrev bb_Xi_written : ByteArray := prog_1_method_15_code
def yy_Xi_written : MethodName := ⟨"IdentityIssuer", "written", "(II)I"⟩
abbrev bb_Wr_write : ByteArray := prog_12_method_2_code
def yy_Wr_write : MethodName := ⟨"IdentityIssuer$Writer", "write", "(LIdentityIssuer$Certificate;LIdentityIssuer$Ids;)LIdentityIssuer$Bytes;"⟩
abbrev bb_Wr_writeBody : ByteArray := prog_12_method_3_code
def yy_Wr_writeBody : MethodName := ⟨"IdentityIssuer$Writer", "writeBody", "(LIdentityIssuer$Certificate;LIdentityIssuer$Ids;)V"⟩
abbrev bb_Wr_writeNumber : ByteArray := prog_12_method_4_code
def yy_Wr_writeNumber : MethodName := ⟨"IdentityIssuer$Writer", "writeNumber", "(I)V"⟩
abbrev bb_Id_writeTo : ByteArray := prog_7_method_13_code
def yy_Id_writeTo : MethodName := ⟨"IdentityIssuer$Ids", "writeTo", "(LIdentityIssuer$Bytes;I)V"⟩
abbrev bb_By_replace : ByteArray := prog_3_method_6_code
def yy_By_replace : MethodName := ⟨"IdentityIssuer$Bytes", "replace", "(II)V"⟩
abbrev bb_By_sum : ByteArray := prog_3_method_7_code
def yy_By_sum : MethodName := ⟨"IdentityIssuer$Bytes", "sum", "(II)I"⟩
abbrev bb_Ky_signatureOf : ByteArray := prog_8_method_10_code
def yy_Ky_signatureOf : MethodName := ⟨"IdentityIssuer$Keys", "signatureOf", "(II)I"⟩
abbrev bb_Ky_power : ByteArray := prog_8_method_12_code
def yy_Ky_power : MethodName := ⟨"IdentityIssuer$Keys", "power", "(III)I"⟩
abbrev bb_Xi_verify : ByteArray := prog_1_method_16_code
def yy_Xi_verify : MethodName := ⟨"IdentityIssuer", "verify", "()I"⟩
abbrev bb_Rd_read : ByteArray := prog_9_method_2_code
def yy_Rd_read : MethodName := ⟨"IdentityIssuer$Reader", "read", "(LIdentityIssuer$Bytes;)V"⟩
abbrev bb_Rd_expect : ByteArray := prog_9_method_4_code
def yy_Rd_expect : MethodName := ⟨"IdentityIssuer$Reader", "expect", "(I)V"⟩
abbrev bb_Rd_fail : ByteArray := prog_9_method_3_code
def yy_Rd_fail : MethodName := ⟨"IdentityIssuer$Reader", "fail", "(I)V"⟩
abbrev bb_Rd_skipLength : ByteArray := prog_9_method_5_code
def yy_Rd_skipLength : MethodName := ⟨"IdentityIssuer$Reader", "skipLength", "()V"⟩
abbrev bb_Rd_readNumber : ByteArray := prog_9_method_6_code
def yy_Rd_readNumber : MethodName := ⟨"IdentityIssuer$Reader", "readNumber", "()I"⟩
abbrev bb_Rd_readId : ByteArray := prog_9_method_7_code
def yy_Rd_readId : MethodName := ⟨"IdentityIssuer$Reader", "readId", "()V"⟩
abbrev bb_Rd_checkLengths : ByteArray := prog_9_method_8_code
def yy_Rd_checkLengths : MethodName := ⟨"IdentityIssuer$Reader", "checkLengths", "()V"⟩
abbrev bb_Xi_judge : ByteArray := prog_1_method_27_code
def yy_Xi_judge : MethodName := ⟨"IdentityIssuer", "judge", "()I"⟩
abbrev bb_Ky_isSignature : ByteArray := prog_8_method_11_code
def yy_Ky_isSignature : MethodName := ⟨"IdentityIssuer$Keys", "isSignature", "(III)Z"⟩
abbrev bb_Xi_prepare : ByteArray := prog_1_method_17_code
def yy_Xi_prepare : MethodName := ⟨"IdentityIssuer", "prepare", "()I"⟩
abbrev bb_Ky_mayMake : ByteArray := prog_8_method_7_code
def yy_Ky_mayMake : MethodName := ⟨"IdentityIssuer$Keys", "mayMake", "(I)Z"⟩
abbrev bb_Ky_make : ByteArray := prog_8_method_8_code
def yy_Ky_make : MethodName := ⟨"IdentityIssuer$Keys", "make", "(I)I"⟩
abbrev bb_Xi_activate : ByteArray := prog_1_method_18_code
def yy_Xi_activate : MethodName := ⟨"IdentityIssuer", "activate", "()Z"⟩
abbrev bb_Ky_useNext : ByteArray := prog_8_method_9_code
def yy_Ky_useNext : MethodName := ⟨"IdentityIssuer$Keys", "useNext", "(I)Z"⟩
abbrev bb_Xi_tick : ByteArray := prog_1_method_19_code
def yy_Xi_tick : MethodName := ⟨"IdentityIssuer", "tick", "(I)I"⟩
abbrev bb_La_cell : ByteArray := method_2_code
def yy_La_cell : MethodName := ⟨"IdentityIssuerLaw", "cell", "([II)I"⟩
abbrev bb_Mo_init : ByteArray := prog_14_method_1_code
def yy_Mo_init : MethodName := ⟨"IdentityIssuerModel", "<init>", "(I)V"⟩
abbrev bb_Mo_put : ByteArray := prog_14_method_3_code
def yy_Mo_put : MethodName := ⟨"IdentityIssuerModel", "put", "(II)Z"⟩
abbrev bb_Mo_outside : ByteArray := prog_14_method_2_code
def yy_Mo_outside : MethodName := ⟨"IdentityIssuerModel", "outside", "(III)Z"⟩
abbrev bb_Mo_id : ByteArray := prog_14_method_12_code
def yy_Mo_id : MethodName := ⟨"IdentityIssuerModel", "id", "()I"⟩
abbrev bb_Mo_identify : ByteArray := prog_14_method_11_code
def yy_Mo_identify : MethodName := ⟨"IdentityIssuerModel", "identify", "(I)I"⟩
abbrev bb_Mo_idError : ByteArray := prog_14_method_9_code
def yy_Mo_idError : MethodName := ⟨"IdentityIssuerModel", "idError", "(II)I"⟩
abbrev bb_Mo_errorBySigns : ByteArray := prog_14_method_8_code
def yy_Mo_errorBySigns : MethodName := ⟨"IdentityIssuerModel", "errorBySigns", "(II)I"⟩
abbrev bb_Mo_sign : ByteArray := prog_14_method_7_code
def yy_Mo_sign : MethodName := ⟨"IdentityIssuerModel", "sign", "(III)I"⟩
abbrev bb_Mo_scheme : ByteArray := prog_14_method_4_code
def yy_Mo_scheme : MethodName := ⟨"IdentityIssuerModel", "scheme", "(I)I"⟩
abbrev bb_Mo_ofDomain : ByteArray := prog_14_method_5_code
def yy_Mo_ofDomain : MethodName := ⟨"IdentityIssuerModel", "ofDomain", "(I)Z"⟩
abbrev bb_Mo_ofSegment : ByteArray := prog_14_method_6_code
def yy_Mo_ofSegment : MethodName := ⟨"IdentityIssuerModel", "ofSegment", "(I)Z"⟩
abbrev bb_Mo_isId : ByteArray := prog_14_method_10_code
def yy_Mo_isId : MethodName := ⟨"IdentityIssuerModel", "isId", "(II)Z"⟩
abbrev bb_Mo_entry : ByteArray := prog_14_method_15_code
def yy_Mo_entry : MethodName := ⟨"IdentityIssuerModel", "entry", "(IIIII)I"⟩
abbrev bb_Mo_good : ByteArray := prog_14_method_14_code
def yy_Mo_good : MethodName := ⟨"IdentityIssuerModel", "good", "(I)Z"⟩
abbrev bb_Mo_ours : ByteArray := prog_14_method_13_code
def yy_Mo_ours : MethodName := ⟨"IdentityIssuerModel", "ours", "(I)Z"⟩
abbrev bb_Mo_remove : ByteArray := prog_14_method_16_code
def yy_Mo_remove : MethodName := ⟨"IdentityIssuerModel", "remove", "(I)Z"⟩
abbrev bb_Mo_foreign : ByteArray := prog_14_method_17_code
def yy_Mo_foreign : MethodName := ⟨"IdentityIssuerModel", "foreign", "(IZ)Z"⟩
abbrev bb_Mo_attest : ByteArray := prog_14_method_19_code
def yy_Mo_attest : MethodName := ⟨"IdentityIssuerModel", "attest", "(II)I"⟩
abbrev bb_Mo_forget : ByteArray := prog_14_method_18_code
def yy_Mo_forget : MethodName := ⟨"IdentityIssuerModel", "forget", "(I)V"⟩
abbrev bb_Mo_sync : ByteArray := prog_14_method_25_code
def yy_Mo_sync : MethodName := ⟨"IdentityIssuerModel", "sync", "(I)I"⟩
abbrev bb_Mo_reach : ByteArray := prog_14_method_20_code
def yy_Mo_reach : MethodName := ⟨"IdentityIssuerModel", "reach", "(I)I"⟩
abbrev bb_Mo_entitled : ByteArray := prog_14_method_23_code
def yy_Mo_entitled : MethodName := ⟨"IdentityIssuerModel", "entitled", "(II)Z"⟩
abbrev bb_Mo_lacks : ByteArray := prog_14_method_22_code
def yy_Mo_lacks : MethodName := ⟨"IdentityIssuerModel", "lacks", "(II)Z"⟩
abbrev bb_Mo_isGood : ByteArray := prog_14_method_21_code
def yy_Mo_isGood : MethodName := ⟨"IdentityIssuerModel", "isGood", "(I)Z"⟩
abbrev bb_Mo_issue : ByteArray := prog_14_method_24_code
def yy_Mo_issue : MethodName := ⟨"IdentityIssuerModel", "issue", "(II)V"⟩
abbrev bb_Mo_fetch : ByteArray := prog_14_method_29_code
def yy_Mo_fetch : MethodName := ⟨"IdentityIssuerModel", "fetch", "(II)I"⟩
abbrev bb_Mo_respond : ByteArray := prog_14_method_26_code
def yy_Mo_respond : MethodName := ⟨"IdentityIssuerModel", "respond", "(II)V"⟩
abbrev bb_Mo_show : ByteArray := prog_14_method_28_code
def yy_Mo_show : MethodName := ⟨"IdentityIssuerModel", "show", "(I)I"⟩
abbrev bb_Mo_foreignFor : ByteArray := prog_14_method_27_code
def yy_Mo_foreignFor : MethodName := ⟨"IdentityIssuerModel", "foreignFor", "(I)I"⟩
abbrev bb_Mo_watch : ByteArray := prog_14_method_30_code
def yy_Mo_watch : MethodName := ⟨"IdentityIssuerModel", "watch", "(II)I"⟩
abbrev bb_Mo_poll : ByteArray := prog_14_method_32_code
def yy_Mo_poll : MethodName := ⟨"IdentityIssuerModel", "poll", "(I)I"⟩
abbrev bb_Mo_news : ByteArray := prog_14_method_31_code
def yy_Mo_news : MethodName := ⟨"IdentityIssuerModel", "news", "(II)Z"⟩
abbrev bb_Mo_svid : ByteArray := prog_14_method_33_code
def yy_Mo_svid : MethodName := ⟨"IdentityIssuerModel", "svid", "(II)I"⟩
abbrev bb_Mo_key : ByteArray := prog_14_method_34_code
def yy_Mo_key : MethodName := ⟨"IdentityIssuerModel", "key", "(I)I"⟩
abbrev bb_Mo_friends : ByteArray := prog_14_method_35_code
def yy_Mo_friends : MethodName := ⟨"IdentityIssuerModel", "friends", "()I"⟩
abbrev bb_Mo_written : ByteArray := prog_14_method_44_code
def yy_Mo_written : MethodName := ⟨"IdentityIssuerModel", "written", "(II)I"⟩
abbrev bb_Mo_make : ByteArray := prog_14_method_43_code
def yy_Mo_make : MethodName := ⟨"IdentityIssuerModel", "make", "(I)V"⟩
abbrev bb_Mo_out : ByteArray := prog_14_method_41_code
def yy_Mo_out : MethodName := ⟨"IdentityIssuerModel", "out", "(I)V"⟩
abbrev bb_Mo_outNumber : ByteArray := prog_14_method_42_code
def yy_Mo_outNumber : MethodName := ⟨"IdentityIssuerModel", "outNumber", "(I)V"⟩
abbrev bb_Mo_mix : ByteArray := prog_14_method_40_code
def yy_Mo_mix : MethodName := ⟨"IdentityIssuerModel", "mix", "(JI)J"⟩
abbrev bb_Mo_secretOf : ByteArray := prog_14_method_38_code
def yy_Mo_secretOf : MethodName := ⟨"IdentityIssuerModel", "secretOf", "(I)J"⟩
abbrev bb_Mo_factor : ByteArray := prog_14_method_37_code
def yy_Mo_factor : MethodName := ⟨"IdentityIssuerModel", "factor", "(I)J"⟩
abbrev bb_Mo_modulus : ByteArray := prog_14_method_36_code
def yy_Mo_modulus : MethodName := ⟨"IdentityIssuerModel", "modulus", "(I)J"⟩
abbrev bb_Mo_power : ByteArray := prog_14_method_39_code
def yy_Mo_power : MethodName := ⟨"IdentityIssuerModel", "power", "(JJJ)J"⟩
abbrev bb_Mo_verify : ByteArray := prog_14_method_50_code
def yy_Mo_verify : MethodName := ⟨"IdentityIssuerModel", "verify", "()I"⟩
abbrev bb_Mo_verified : ByteArray := prog_14_method_49_code
def yy_Mo_verified : MethodName := ⟨"IdentityIssuerModel", "verified", "()I"⟩
abbrev bb_Mo_in : ByteArray := prog_14_method_46_code
def yy_Mo_in : MethodName := ⟨"IdentityIssuerModel", "in", "(II)I"⟩
abbrev bb_Mo_error : ByteArray := prog_14_method_45_code
def yy_Mo_error : MethodName := ⟨"IdentityIssuerModel", "error", "(I)V"⟩
abbrev bb_Mo_inNumber : ByteArray := prog_14_method_47_code
def yy_Mo_inNumber : MethodName := ⟨"IdentityIssuerModel", "inNumber", "()I"⟩
abbrev bb_Mo_inId : ByteArray := prog_14_method_48_code
def yy_Mo_inId : MethodName := ⟨"IdentityIssuerModel", "inId", "()V"⟩
abbrev bb_Mo_prepare : ByteArray := prog_14_method_51_code
def yy_Mo_prepare : MethodName := ⟨"IdentityIssuerModel", "prepare", "()I"⟩
abbrev bb_Mo_activate : ByteArray := prog_14_method_52_code
def yy_Mo_activate : MethodName := ⟨"IdentityIssuerModel", "activate", "()Z"⟩
abbrev bb_Mo_tick : ByteArray := prog_14_method_53_code
def yy_Mo_tick : MethodName := ⟨"IdentityIssuerModel", "tick", "(I)I"⟩
