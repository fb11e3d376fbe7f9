section
-- ===== PART A: goes FIRST, ahead of the names: the tables' words, and 'selects' of the private methods out of them =====
/-- a private method of a class that the tables say can be made, by its rows of tables_1 -/
def lw_okq (q : MethodName × Nat) : Prop := (q.1.cls ≠ "java/lang/invoke/MethodHandle" ∧ q.1.cls ≠ "java/lang/invoke/VarHandle") ∧ Cond.instantiable q.1.cls q.2 ∈ tables_1 ∧ Cond.privateMethod q.1 ∈ tables_1 ∧ Cond.instanceMethod q.1 ∈ tables_1
theorem lw_p0 : lw_okq (⟨"java/lang/Throwable", "fillInStackTrace", "(I)Ljava/lang/Throwable;"⟩, 6) := ⟨⟨by decide +kernel, by decide +kernel⟩, List.mem_of_getElem? (i := 371) (by decide +kernel), List.mem_of_getElem? (i := 369) (by decide +kernel), List.mem_of_getElem? (i := 370) (by decide +kernel)⟩
theorem lw_p1 : lw_okq (⟨"HashTreeSigner", "putOnTape", "(I)V"⟩, 8) := ⟨⟨by decide +kernel, by decide +kernel⟩, List.mem_of_getElem? (i := 36) (by decide +kernel), List.mem_of_getElem? (i := 400) (by decide +kernel), List.mem_of_getElem? (i := 401) (by decide +kernel)⟩
theorem lw_p2 : lw_okq (⟨"HashTreeSigner", "setSlot", "(I[BI)V"⟩, 8) := ⟨⟨by decide +kernel, by decide +kernel⟩, List.mem_of_getElem? (i := 36) (by decide +kernel), List.mem_of_getElem? (i := 436) (by decide +kernel), List.mem_of_getElem? (i := 437) (by decide +kernel)⟩
theorem lw_p3 : lw_okq (⟨"HashTreeSigner", "checkPlace", "(II)V"⟩, 8) := ⟨⟨by decide +kernel, by decide +kernel⟩, List.mem_of_getElem? (i := 36) (by decide +kernel), List.mem_of_getElem? (i := 730) (by decide +kernel), List.mem_of_getElem? (i := 731) (by decide +kernel)⟩
theorem lw_p4 : lw_okq (⟨"HashTreeSigner", "treesOf", "(I)LHashTreeSigner$Trees;"⟩, 8) := ⟨⟨by decide +kernel, by decide +kernel⟩, List.mem_of_getElem? (i := 36) (by decide +kernel), List.mem_of_getElem? (i := 792) (by decide +kernel), List.mem_of_getElem? (i := 793) (by decide +kernel)⟩
theorem lw_p5 : lw_okq (⟨"HashTreeSigner$Trees", "forestLeaf", "(II)V"⟩, 12) := ⟨⟨by decide +kernel, by decide +kernel⟩, List.mem_of_getElem? (i := 48) (by decide +kernel), List.mem_of_getElem? (i := 875) (by decide +kernel), List.mem_of_getElem? (i := 876) (by decide +kernel)⟩
theorem lw_p6 : lw_okq (⟨"HashTreeSigner$Address", "put", "(II)V"⟩, 5) := ⟨⟨by decide +kernel, by decide +kernel⟩, List.mem_of_getElem? (i := 55) (by decide +kernel), List.mem_of_getElem? (i := 883) (by decide +kernel), List.mem_of_getElem? (i := 884) (by decide +kernel)⟩
theorem lw_p7 : lw_okq (⟨"HashTreeSigner$Sponge", "permute", "()V"⟩, 3) := ⟨⟨by decide +kernel, by decide +kernel⟩, List.mem_of_getElem? (i := 85) (by decide +kernel), List.mem_of_getElem? (i := 922) (by decide +kernel), List.mem_of_getElem? (i := 923) (by decide +kernel)⟩
theorem lw_p8 : lw_okq (⟨"HashTreeSigner", "checkContext", "(I)V"⟩, 8) := ⟨⟨by decide +kernel, by decide +kernel⟩, List.mem_of_getElem? (i := 36) (by decide +kernel), List.mem_of_getElem? (i := 969) (by decide +kernel), List.mem_of_getElem? (i := 970) (by decide +kernel)⟩
theorem lw_p9 : lw_okq (⟨"HashTreeSigner", "checkSecret", "(LHashTreeSigner$Sizes;)V"⟩, 8) := ⟨⟨by decide +kernel, by decide +kernel⟩, List.mem_of_getElem? (i := 36) (by decide +kernel), List.mem_of_getElem? (i := 975) (by decide +kernel), List.mem_of_getElem? (i := 976) (by decide +kernel)⟩
theorem lw_p10 : lw_okq (⟨"HashTreeSigner", "laySigned", "(I)V"⟩, 8) := ⟨⟨by decide +kernel, by decide +kernel⟩, List.mem_of_getElem? (i := 36) (by decide +kernel), List.mem_of_getElem? (i := 995) (by decide +kernel), List.mem_of_getElem? (i := 996) (by decide +kernel)⟩
theorem lw_p11 : lw_okq (⟨"HashTreeSigner$Sha2Family", "messageHash", "()LHashTreeSigner$Sha2;"⟩, 8) := ⟨⟨by decide +kernel, by decide +kernel⟩, List.mem_of_getElem? (i := 210) (by decide +kernel), List.mem_of_getElem? (i := 1009) (by decide +kernel), List.mem_of_getElem? (i := 1010) (by decide +kernel)⟩
theorem lw_p12 : lw_okq (⟨"HashTreeSigner$Sha2Family", "startKeyed", "(LHashTreeSigner$Sha2;I)V"⟩, 8) := ⟨⟨by decide +kernel, by decide +kernel⟩, List.mem_of_getElem? (i := 210) (by decide +kernel), List.mem_of_getElem? (i := 1013) (by decide +kernel), List.mem_of_getElem? (i := 1014) (by decide +kernel)⟩
theorem lw_p13 : lw_okq (⟨"HashTreeSigner$Trees", "number", "(II)J"⟩, 12) := ⟨⟨by decide +kernel, by decide +kernel⟩, List.mem_of_getElem? (i := 48) (by decide +kernel), List.mem_of_getElem? (i := 1035) (by decide +kernel), List.mem_of_getElem? (i := 1036) (by decide +kernel)⟩
theorem lw_p14 : lw_okq (⟨"HashTreeSigner$Trees", "enterForest", "()V"⟩, 12) := ⟨⟨by decide +kernel, by decide +kernel⟩, List.mem_of_getElem? (i := 48) (by decide +kernel), List.mem_of_getElem? (i := 1043) (by decide +kernel), List.mem_of_getElem? (i := 1044) (by decide +kernel)⟩
theorem lw_p15 : lw_okq (⟨"HashTreeSigner$Trees", "chosen", "(I)I"⟩, 12) := ⟨⟨by decide +kernel, by decide +kernel⟩, List.mem_of_getElem? (i := 48) (by decide +kernel), List.mem_of_getElem? (i := 1047) (by decide +kernel), List.mem_of_getElem? (i := 1048) (by decide +kernel)⟩
def lw_privs_1 : List (MethodName × Nat) := [(⟨"java/lang/Throwable", "fillInStackTrace", "(I)Ljava/lang/Throwable;"⟩, 6), (⟨"HashTreeSigner", "putOnTape", "(I)V"⟩, 8), (⟨"HashTreeSigner", "setSlot", "(I[BI)V"⟩, 8), (⟨"HashTreeSigner", "checkPlace", "(II)V"⟩, 8), (⟨"HashTreeSigner", "treesOf", "(I)LHashTreeSigner$Trees;"⟩, 8), (⟨"HashTreeSigner$Trees", "forestLeaf", "(II)V"⟩, 12), (⟨"HashTreeSigner$Address", "put", "(II)V"⟩, 5), (⟨"HashTreeSigner$Sponge", "permute", "()V"⟩, 3), (⟨"HashTreeSigner", "checkContext", "(I)V"⟩, 8), (⟨"HashTreeSigner", "checkSecret", "(LHashTreeSigner$Sizes;)V"⟩, 8), (⟨"HashTreeSigner", "laySigned", "(I)V"⟩, 8), (⟨"HashTreeSigner$Sha2Family", "messageHash", "()LHashTreeSigner$Sha2;"⟩, 8), (⟨"HashTreeSigner$Sha2Family", "startKeyed", "(LHashTreeSigner$Sha2;I)V"⟩, 8), (⟨"HashTreeSigner$Trees", "number", "(II)J"⟩, 12), (⟨"HashTreeSigner$Trees", "enterForest", "()V"⟩, 12), (⟨"HashTreeSigner$Trees", "chosen", "(I)I"⟩, 12)]
theorem lw_r1 : ∀ q ∈ lw_privs_1, lw_okq q := List.forall_mem_cons.mpr ⟨lw_p0, List.forall_mem_cons.mpr ⟨lw_p1, List.forall_mem_cons.mpr ⟨lw_p2, List.forall_mem_cons.mpr ⟨lw_p3, List.forall_mem_cons.mpr ⟨lw_p4, List.forall_mem_cons.mpr ⟨lw_p5, List.forall_mem_cons.mpr ⟨lw_p6, List.forall_mem_cons.mpr ⟨lw_p7, List.forall_mem_cons.mpr ⟨lw_p8, List.forall_mem_cons.mpr ⟨lw_p9, List.forall_mem_cons.mpr ⟨lw_p10, List.forall_mem_cons.mpr ⟨lw_p11, List.forall_mem_cons.mpr ⟨lw_p12, List.forall_mem_cons.mpr ⟨lw_p13, List.forall_mem_cons.mpr ⟨lw_p14, List.forall_mem_cons.mpr ⟨lw_p15, fun _ h => absurd h List.not_mem_nil⟩⟩⟩⟩⟩⟩⟩⟩⟩⟩⟩⟩⟩⟩⟩⟩
theorem lw_p16 : lw_okq (⟨"HashTreeSigner$Trees", "climb", "(II[BI[BI)V"⟩, 12) := ⟨⟨by decide +kernel, by decide +kernel⟩, List.mem_of_getElem? (i := 48) (by decide +kernel), List.mem_of_getElem? (i := 1056) (by decide +kernel), List.mem_of_getElem? (i := 1057) (by decide +kernel)⟩
theorem lw_p17 : lw_okq (⟨"HashTreeSignerModel", "constants", "()V"⟩, 49) := ⟨⟨by decide +kernel, by decide +kernel⟩, List.mem_of_getElem? (i := 1092) (by decide +kernel), List.mem_of_getElem? (i := 1100) (by decide +kernel), List.mem_of_getElem? (i := 1101) (by decide +kernel)⟩
theorem lw_p18 : lw_okq (⟨"HashTreeSignerModel", "root", "(II)J"⟩, 49) := ⟨⟨by decide +kernel, by decide +kernel⟩, List.mem_of_getElem? (i := 1092) (by decide +kernel), List.mem_of_getElem? (i := 1107) (by decide +kernel), List.mem_of_getElem? (i := 1108) (by decide +kernel)⟩
theorem lw_p19 : lw_okq (⟨"HashTreeSignerModel", "above", "(IJII)Z"⟩, 49) := ⟨⟨by decide +kernel, by decide +kernel⟩, List.mem_of_getElem? (i := 1092) (by decide +kernel), List.mem_of_getElem? (i := 1111) (by decide +kernel), List.mem_of_getElem? (i := 1112) (by decide +kernel)⟩
theorem lw_p20 : lw_okq (⟨"HashTreeSignerModel", "named", "([JII)V"⟩, 49) := ⟨⟨by decide +kernel, by decide +kernel⟩, List.mem_of_getElem? (i := 1092) (by decide +kernel), List.mem_of_getElem? (i := 1119) (by decide +kernel), List.mem_of_getElem? (i := 1120) (by decide +kernel)⟩
theorem lw_p21 : lw_okq (⟨"HashTreeSignerModel", "begin", "(I)V"⟩, 49) := ⟨⟨by decide +kernel, by decide +kernel⟩, List.mem_of_getElem? (i := 1092) (by decide +kernel), List.mem_of_getElem? (i := 1123) (by decide +kernel), List.mem_of_getElem? (i := 1124) (by decide +kernel)⟩
theorem lw_p22 : lw_okq (⟨"HashTreeSignerModel", "put", "(I)V"⟩, 49) := ⟨⟨by decide +kernel, by decide +kernel⟩, List.mem_of_getElem? (i := 1092) (by decide +kernel), List.mem_of_getElem? (i := 1135) (by decide +kernel), List.mem_of_getElem? (i := 1136) (by decide +kernel)⟩
theorem lw_p23 : lw_okq (⟨"HashTreeSignerModel", "sponge", "()Z"⟩, 49) := ⟨⟨by decide +kernel, by decide +kernel⟩, List.mem_of_getElem? (i := 1092) (by decide +kernel), List.mem_of_getElem? (i := 1139) (by decide +kernel), List.mem_of_getElem? (i := 1140) (by decide +kernel)⟩
theorem lw_p24 : lw_okq (⟨"HashTreeSignerModel", "flip", "(II)V"⟩, 49) := ⟨⟨by decide +kernel, by decide +kernel⟩, List.mem_of_getElem? (i := 1092) (by decide +kernel), List.mem_of_getElem? (i := 1143) (by decide +kernel), List.mem_of_getElem? (i := 1144) (by decide +kernel)⟩
theorem lw_p25 : lw_okq (⟨"HashTreeSignerModel", "permute", "()V"⟩, 49) := ⟨⟨by decide +kernel, by decide +kernel⟩, List.mem_of_getElem? (i := 1092) (by decide +kernel), List.mem_of_getElem? (i := 1148) (by decide +kernel), List.mem_of_getElem? (i := 1149) (by decide +kernel)⟩
theorem lw_p26 : lw_okq (⟨"HashTreeSignerModel", "compress32", "()V"⟩, 49) := ⟨⟨by decide +kernel, by decide +kernel⟩, List.mem_of_getElem? (i := 1092) (by decide +kernel), List.mem_of_getElem? (i := 1156) (by decide +kernel), List.mem_of_getElem? (i := 1157) (by decide +kernel)⟩
theorem lw_p27 : lw_okq (⟨"HashTreeSignerModel", "compress64", "()V"⟩, 49) := ⟨⟨by decide +kernel, by decide +kernel⟩, List.mem_of_getElem? (i := 1092) (by decide +kernel), List.mem_of_getElem? (i := 1163) (by decide +kernel), List.mem_of_getElem? (i := 1164) (by decide +kernel)⟩
theorem lw_p28 : lw_okq (⟨"HashTreeSignerModel", "finish", "()V"⟩, 49) := ⟨⟨by decide +kernel, by decide +kernel⟩, List.mem_of_getElem? (i := 1092) (by decide +kernel), List.mem_of_getElem? (i := 1170) (by decide +kernel), List.mem_of_getElem? (i := 1171) (by decide +kernel)⟩
theorem lw_p29 : lw_okq (⟨"HashTreeSignerModel", "good", "(ZI)Z"⟩, 49) := ⟨⟨by decide +kernel, by decide +kernel⟩, List.mem_of_getElem? (i := 1092) (by decide +kernel), List.mem_of_getElem? (i := 1331) (by decide +kernel), List.mem_of_getElem? (i := 1332) (by decide +kernel)⟩
theorem lw_p30 : lw_okq (⟨"HashTreeSignerModel", "word", "(I)V"⟩, 49) := ⟨⟨by decide +kernel, by decide +kernel⟩, List.mem_of_getElem? (i := 1092) (by decide +kernel), List.mem_of_getElem? (i := 1335) (by decide +kernel), List.mem_of_getElem? (i := 1336) (by decide +kernel)⟩
theorem lw_p31 : lw_okq (⟨"HashTreeSignerModel", "slh", "(I)V"⟩, 49) := ⟨⟨by decide +kernel, by decide +kernel⟩, List.mem_of_getElem? (i := 1092) (by decide +kernel), List.mem_of_getElem? (i := 1374) (by decide +kernel), List.mem_of_getElem? (i := 1375) (by decide +kernel)⟩
def lw_privs_2 : List (MethodName × Nat) := [(⟨"HashTreeSigner$Trees", "climb", "(II[BI[BI)V"⟩, 12), (⟨"HashTreeSignerModel", "constants", "()V"⟩, 49), (⟨"HashTreeSignerModel", "root", "(II)J"⟩, 49), (⟨"HashTreeSignerModel", "above", "(IJII)Z"⟩, 49), (⟨"HashTreeSignerModel", "named", "([JII)V"⟩, 49), (⟨"HashTreeSignerModel", "begin", "(I)V"⟩, 49), (⟨"HashTreeSignerModel", "put", "(I)V"⟩, 49), (⟨"HashTreeSignerModel", "sponge", "()Z"⟩, 49), (⟨"HashTreeSignerModel", "flip", "(II)V"⟩, 49), (⟨"HashTreeSignerModel", "permute", "()V"⟩, 49), (⟨"HashTreeSignerModel", "compress32", "()V"⟩, 49), (⟨"HashTreeSignerModel", "compress64", "()V"⟩, 49), (⟨"HashTreeSignerModel", "finish", "()V"⟩, 49), (⟨"HashTreeSignerModel", "good", "(ZI)Z"⟩, 49), (⟨"HashTreeSignerModel", "word", "(I)V"⟩, 49), (⟨"HashTreeSignerModel", "slh", "(I)V"⟩, 49)]
theorem lw_r2 : ∀ q ∈ lw_privs_2, lw_okq q := List.forall_mem_cons.mpr ⟨lw_p16, List.forall_mem_cons.mpr ⟨lw_p17, List.forall_mem_cons.mpr ⟨lw_p18, List.forall_mem_cons.mpr ⟨lw_p19, List.forall_mem_cons.mpr ⟨lw_p20, List.forall_mem_cons.mpr ⟨lw_p21, List.forall_mem_cons.mpr ⟨lw_p22, List.forall_mem_cons.mpr ⟨lw_p23, List.forall_mem_cons.mpr ⟨lw_p24, List.forall_mem_cons.mpr ⟨lw_p25, List.forall_mem_cons.mpr ⟨lw_p26, List.forall_mem_cons.mpr ⟨lw_p27, List.forall_mem_cons.mpr ⟨lw_p28, List.forall_mem_cons.mpr ⟨lw_p29, List.forall_mem_cons.mpr ⟨lw_p30, List.forall_mem_cons.mpr ⟨lw_p31, fun _ h => absurd h List.not_mem_nil⟩⟩⟩⟩⟩⟩⟩⟩⟩⟩⟩⟩⟩⟩⟩⟩
theorem lw_p32 : lw_okq (⟨"HashTreeSignerModel", "place", "(IJ)V"⟩, 49) := ⟨⟨by decide +kernel, by decide +kernel⟩, List.mem_of_getElem? (i := 1092) (by decide +kernel), List.mem_of_getElem? (i := 1381) (by decide +kernel), List.mem_of_getElem? (i := 1382) (by decide +kernel)⟩
theorem lw_p33 : lw_okq (⟨"HashTreeSignerModel", "node", "(II[BI)V"⟩, 49) := ⟨⟨by decide +kernel, by decide +kernel⟩, List.mem_of_getElem? (i := 1092) (by decide +kernel), List.mem_of_getElem? (i := 1385) (by decide +kernel), List.mem_of_getElem? (i := 1386) (by decide +kernel)⟩
theorem lw_p34 : lw_okq (⟨"HashTreeSignerModel", "leaf", "(I[BI)V"⟩, 49) := ⟨⟨by decide +kernel, by decide +kernel⟩, List.mem_of_getElem? (i := 1092) (by decide +kernel), List.mem_of_getElem? (i := 1389) (by decide +kernel), List.mem_of_getElem? (i := 1390) (by decide +kernel)⟩
theorem lw_p35 : lw_okq (⟨"HashTreeSignerModel", "type", "(IIII)V"⟩, 49) := ⟨⟨by decide +kernel, by decide +kernel⟩, List.mem_of_getElem? (i := 1092) (by decide +kernel), List.mem_of_getElem? (i := 1393) (by decide +kernel), List.mem_of_getElem? (i := 1394) (by decide +kernel)⟩
theorem lw_p36 : lw_okq (⟨"HashTreeSignerModel", "pseudo", "([BI)V"⟩, 49) := ⟨⟨by decide +kernel, by decide +kernel⟩, List.mem_of_getElem? (i := 1092) (by decide +kernel), List.mem_of_getElem? (i := 1397) (by decide +kernel), List.mem_of_getElem? (i := 1398) (by decide +kernel)⟩
theorem lw_p37 : lw_okq (⟨"HashTreeSignerModel", "hashed", "([BII[BI)V"⟩, 49) := ⟨⟨by decide +kernel, by decide +kernel⟩, List.mem_of_getElem? (i := 1092) (by decide +kernel), List.mem_of_getElem? (i := 1401) (by decide +kernel), List.mem_of_getElem? (i := 1402) (by decide +kernel)⟩
theorem lw_p38 : lw_okq (⟨"HashTreeSignerModel", "put", "([BII)V"⟩, 49) := ⟨⟨by decide +kernel, by decide +kernel⟩, List.mem_of_getElem? (i := 1092) (by decide +kernel), List.mem_of_getElem? (i := 1405) (by decide +kernel), List.mem_of_getElem? (i := 1406) (by decide +kernel)⟩
theorem lw_p39 : lw_okq (⟨"HashTreeSignerModel", "give", "([BII)V"⟩, 49) := ⟨⟨by decide +kernel, by decide +kernel⟩, List.mem_of_getElem? (i := 1092) (by decide +kernel), List.mem_of_getElem? (i := 1409) (by decide +kernel), List.mem_of_getElem? (i := 1410) (by decide +kernel)⟩
theorem lw_p40 : lw_okq (⟨"HashTreeSignerModel", "squeeze", "()I"⟩, 49) := ⟨⟨by decide +kernel, by decide +kernel⟩, List.mem_of_getElem? (i := 1092) (by decide +kernel), List.mem_of_getElem? (i := 1413) (by decide +kernel), List.mem_of_getElem? (i := 1414) (by decide +kernel)⟩
theorem lw_p41 : lw_okq (⟨"HashTreeSignerModel", "chain", "(IIII[BI)V"⟩, 49) := ⟨⟨by decide +kernel, by decide +kernel⟩, List.mem_of_getElem? (i := 1092) (by decide +kernel), List.mem_of_getElem? (i := 1417) (by decide +kernel), List.mem_of_getElem? (i := 1418) (by decide +kernel)⟩
theorem lw_p42 : lw_okq (⟨"HashTreeSignerModel", "context", "(I)Z"⟩, 49) := ⟨⟨by decide +kernel, by decide +kernel⟩, List.mem_of_getElem? (i := 1092) (by decide +kernel), List.mem_of_getElem? (i := 1425) (by decide +kernel), List.mem_of_getElem? (i := 1426) (by decide +kernel)⟩
theorem lw_p43 : lw_okq (⟨"HashTreeSignerModel", "before", "(I)V"⟩, 49) := ⟨⟨by decide +kernel, by decide +kernel⟩, List.mem_of_getElem? (i := 1092) (by decide +kernel), List.mem_of_getElem? (i := 1429) (by decide +kernel), List.mem_of_getElem? (i := 1430) (by decide +kernel)⟩
theorem lw_p44 : lw_okq (⟨"HashTreeSignerModel", "large", "()I"⟩, 49) := ⟨⟨by decide +kernel, by decide +kernel⟩, List.mem_of_getElem? (i := 1092) (by decide +kernel), List.mem_of_getElem? (i := 1433) (by decide +kernel), List.mem_of_getElem? (i := 1434) (by decide +kernel)⟩
theorem lw_p45 : lw_okq (⟨"HashTreeSignerModel", "startMac", "(I[BII)V"⟩, 49) := ⟨⟨by decide +kernel, by decide +kernel⟩, List.mem_of_getElem? (i := 1092) (by decide +kernel), List.mem_of_getElem? (i := 1437) (by decide +kernel), List.mem_of_getElem? (i := 1438) (by decide +kernel)⟩
theorem lw_p46 : lw_okq (⟨"HashTreeSignerModel", "putSigned", "(I)V"⟩, 49) := ⟨⟨by decide +kernel, by decide +kernel⟩, List.mem_of_getElem? (i := 1092) (by decide +kernel), List.mem_of_getElem? (i := 1441) (by decide +kernel), List.mem_of_getElem? (i := 1442) (by decide +kernel)⟩
theorem lw_p47 : lw_okq (⟨"HashTreeSignerModel", "endMac", "(I[BII)V"⟩, 49) := ⟨⟨by decide +kernel, by decide +kernel⟩, List.mem_of_getElem? (i := 1092) (by decide +kernel), List.mem_of_getElem? (i := 1445) (by decide +kernel), List.mem_of_getElem? (i := 1446) (by decide +kernel)⟩
def lw_privs_3 : List (MethodName × Nat) := [(⟨"HashTreeSignerModel", "place", "(IJ)V"⟩, 49), (⟨"HashTreeSignerModel", "node", "(II[BI)V"⟩, 49), (⟨"HashTreeSignerModel", "leaf", "(I[BI)V"⟩, 49), (⟨"HashTreeSignerModel", "type", "(IIII)V"⟩, 49), (⟨"HashTreeSignerModel", "pseudo", "([BI)V"⟩, 49), (⟨"HashTreeSignerModel", "hashed", "([BII[BI)V"⟩, 49), (⟨"HashTreeSignerModel", "put", "([BII)V"⟩, 49), (⟨"HashTreeSignerModel", "give", "([BII)V"⟩, 49), (⟨"HashTreeSignerModel", "squeeze", "()I"⟩, 49), (⟨"HashTreeSignerModel", "chain", "(IIII[BI)V"⟩, 49), (⟨"HashTreeSignerModel", "context", "(I)Z"⟩, 49), (⟨"HashTreeSignerModel", "before", "(I)V"⟩, 49), (⟨"HashTreeSignerModel", "large", "()I"⟩, 49), (⟨"HashTreeSignerModel", "startMac", "(I[BII)V"⟩, 49), (⟨"HashTreeSignerModel", "putSigned", "(I)V"⟩, 49), (⟨"HashTreeSignerModel", "endMac", "(I[BII)V"⟩, 49)]
theorem lw_r3 : ∀ q ∈ lw_privs_3, lw_okq q := List.forall_mem_cons.mpr ⟨lw_p32, List.forall_mem_cons.mpr ⟨lw_p33, List.forall_mem_cons.mpr ⟨lw_p34, List.forall_mem_cons.mpr ⟨lw_p35, List.forall_mem_cons.mpr ⟨lw_p36, List.forall_mem_cons.mpr ⟨lw_p37, List.forall_mem_cons.mpr ⟨lw_p38, List.forall_mem_cons.mpr ⟨lw_p39, List.forall_mem_cons.mpr ⟨lw_p40, List.forall_mem_cons.mpr ⟨lw_p41, List.forall_mem_cons.mpr ⟨lw_p42, List.forall_mem_cons.mpr ⟨lw_p43, List.forall_mem_cons.mpr ⟨lw_p44, List.forall_mem_cons.mpr ⟨lw_p45, List.forall_mem_cons.mpr ⟨lw_p46, List.forall_mem_cons.mpr ⟨lw_p47, fun _ h => absurd h List.not_mem_nil⟩⟩⟩⟩⟩⟩⟩⟩⟩⟩⟩⟩⟩⟩⟩⟩
theorem lw_p48 : lw_okq (⟨"HashTreeSignerModel", "digestTree", "([BII)V"⟩, 49) := ⟨⟨by decide +kernel, by decide +kernel⟩, List.mem_of_getElem? (i := 1092) (by decide +kernel), List.mem_of_getElem? (i := 1449) (by decide +kernel), List.mem_of_getElem? (i := 1450) (by decide +kernel)⟩
theorem lw_p49 : lw_okq (⟨"HashTreeSignerModel", "mask", "(I[BI[BII)V"⟩, 49) := ⟨⟨by decide +kernel, by decide +kernel⟩, List.mem_of_getElem? (i := 1092) (by decide +kernel), List.mem_of_getElem? (i := 1453) (by decide +kernel), List.mem_of_getElem? (i := 1454) (by decide +kernel)⟩
theorem lw_p50 : lw_okq (⟨"HashTreeSignerModel", "treeNumber", "()J"⟩, 49) := ⟨⟨by decide +kernel, by decide +kernel⟩, List.mem_of_getElem? (i := 1092) (by decide +kernel), List.mem_of_getElem? (i := 1457) (by decide +kernel), List.mem_of_getElem? (i := 1458) (by decide +kernel)⟩
theorem lw_p51 : lw_okq (⟨"HashTreeSignerModel", "pairNumber", "()I"⟩, 49) := ⟨⟨by decide +kernel, by decide +kernel⟩, List.mem_of_getElem? (i := 1092) (by decide +kernel), List.mem_of_getElem? (i := 1461) (by decide +kernel), List.mem_of_getElem? (i := 1462) (by decide +kernel)⟩
theorem lw_p52 : lw_okq (⟨"HashTreeSignerModel", "signForest", "(I[BI)V"⟩, 49) := ⟨⟨by decide +kernel, by decide +kernel⟩, List.mem_of_getElem? (i := 1092) (by decide +kernel), List.mem_of_getElem? (i := 1465) (by decide +kernel), List.mem_of_getElem? (i := 1466) (by decide +kernel)⟩
theorem lw_p53 : lw_okq (⟨"HashTreeSignerModel", "numberOf", "(I)I"⟩, 49) := ⟨⟨by decide +kernel, by decide +kernel⟩, List.mem_of_getElem? (i := 1092) (by decide +kernel), List.mem_of_getElem? (i := 1469) (by decide +kernel), List.mem_of_getElem? (i := 1470) (by decide +kernel)⟩
theorem lw_p54 : lw_okq (⟨"HashTreeSignerModel", "forestNode", "(III[BI)V"⟩, 49) := ⟨⟨by decide +kernel, by decide +kernel⟩, List.mem_of_getElem? (i := 1092) (by decide +kernel), List.mem_of_getElem? (i := 1473) (by decide +kernel), List.mem_of_getElem? (i := 1474) (by decide +kernel)⟩
theorem lw_p55 : lw_okq (⟨"HashTreeSignerModel", "rootOfForest", "(I[BI)V"⟩, 49) := ⟨⟨by decide +kernel, by decide +kernel⟩, List.mem_of_getElem? (i := 1092) (by decide +kernel), List.mem_of_getElem? (i := 1477) (by decide +kernel), List.mem_of_getElem? (i := 1478) (by decide +kernel)⟩
theorem lw_p56 : lw_okq (⟨"HashTreeSignerModel", "climb", "(IIII[BI)V"⟩, 49) := ⟨⟨by decide +kernel, by decide +kernel⟩, List.mem_of_getElem? (i := 1092) (by decide +kernel), List.mem_of_getElem? (i := 1481) (by decide +kernel), List.mem_of_getElem? (i := 1482) (by decide +kernel)⟩
theorem lw_p57 : lw_okq (⟨"HashTreeSignerModel", "signTree", "([BII[BI)V"⟩, 49) := ⟨⟨by decide +kernel, by decide +kernel⟩, List.mem_of_getElem? (i := 1092) (by decide +kernel), List.mem_of_getElem? (i := 1485) (by decide +kernel), List.mem_of_getElem? (i := 1486) (by decide +kernel)⟩
theorem lw_p58 : lw_okq (⟨"HashTreeSignerModel", "digitsOf", "([BI)V"⟩, 49) := ⟨⟨by decide +kernel, by decide +kernel⟩, List.mem_of_getElem? (i := 1092) (by decide +kernel), List.mem_of_getElem? (i := 1489) (by decide +kernel), List.mem_of_getElem? (i := 1490) (by decide +kernel)⟩
theorem lw_p59 : lw_okq (⟨"HashTreeSignerModel", "rootOf", "(I[BI[BI)V"⟩, 49) := ⟨⟨by decide +kernel, by decide +kernel⟩, List.mem_of_getElem? (i := 1092) (by decide +kernel), List.mem_of_getElem? (i := 1493) (by decide +kernel), List.mem_of_getElem? (i := 1494) (by decide +kernel)⟩
def lw_privs_4 : List (MethodName × Nat) := [(⟨"HashTreeSignerModel", "digestTree", "([BII)V"⟩, 49), (⟨"HashTreeSignerModel", "mask", "(I[BI[BII)V"⟩, 49), (⟨"HashTreeSignerModel", "treeNumber", "()J"⟩, 49), (⟨"HashTreeSignerModel", "pairNumber", "()I"⟩, 49), (⟨"HashTreeSignerModel", "signForest", "(I[BI)V"⟩, 49), (⟨"HashTreeSignerModel", "numberOf", "(I)I"⟩, 49), (⟨"HashTreeSignerModel", "forestNode", "(III[BI)V"⟩, 49), (⟨"HashTreeSignerModel", "rootOfForest", "(I[BI)V"⟩, 49), (⟨"HashTreeSignerModel", "climb", "(IIII[BI)V"⟩, 49), (⟨"HashTreeSignerModel", "signTree", "([BII[BI)V"⟩, 49), (⟨"HashTreeSignerModel", "digitsOf", "([BI)V"⟩, 49), (⟨"HashTreeSignerModel", "rootOf", "(I[BI[BI)V"⟩, 49)]
theorem lw_r4 : ∀ q ∈ lw_privs_4, lw_okq q := List.forall_mem_cons.mpr ⟨lw_p48, List.forall_mem_cons.mpr ⟨lw_p49, List.forall_mem_cons.mpr ⟨lw_p50, List.forall_mem_cons.mpr ⟨lw_p51, List.forall_mem_cons.mpr ⟨lw_p52, List.forall_mem_cons.mpr ⟨lw_p53, List.forall_mem_cons.mpr ⟨lw_p54, List.forall_mem_cons.mpr ⟨lw_p55, List.forall_mem_cons.mpr ⟨lw_p56, List.forall_mem_cons.mpr ⟨lw_p57, List.forall_mem_cons.mpr ⟨lw_p58, List.forall_mem_cons.mpr ⟨lw_p59, fun _ h => absurd h List.not_mem_nil⟩⟩⟩⟩⟩⟩⟩⟩⟩⟩⟩⟩
def lw_privs : List (MethodName × Nat) := lw_privs_1 ++ (lw_privs_2 ++ (lw_privs_3 ++ (lw_privs_4)))
def lw_tbl : List Cond := k2_sels lw_privs ++ tables_1
theorem lw_privs_ok : ∀ q ∈ lw_privs, lw_okq q := by
  show ∀ q ∈ lw_privs_1 ++ (lw_privs_2 ++ (lw_privs_3 ++ (lw_privs_4))), lw_okq q
  exact List.forall_mem_append.mpr ⟨lw_r1, List.forall_mem_append.mpr ⟨lw_r2, List.forall_mem_append.mpr ⟨lw_r3, lw_r4⟩⟩⟩
-- ===== end of PART A; then your names; then what follows =====
end
section
/-! ===== BEGIN words of one list among another's, by their places ===== -/
theorem goodIn_r {big : List Cond} (ws : List Cond) (ps : List Nat) (hp : ws = ps.filterMap (fun i => big[i]?)) (h : ws.all goodWord = true) : GoodIn big ws := by
  intro w hw
  have h1 := List.all_eq_true.mp h w hw
  rw [hp] at hw
  obtain ⟨i, -, hi⟩ := List.mem_filterMap.mp hw
  have hm : w ∈ big := by first | exact List.mem_of_getElem? hi | exact List.getElem?_mem hi
  exact ⟨hm, good_of_word h1⟩
theorem goodIn_app {big a b : List Cond} (ha : GoodIn big a) (hb : GoodIn big b) : GoodIn big (a ++ b) := fun w h => (List.mem_append.mp h).elim (ha w) (hb w)
theorem goodIn_ca {big a b : List Cond} {c : Cond} (ha : GoodIn big (c :: a)) (hb : GoodIn big b) : GoodIn big (c :: (a ++ b)) := fun w h => (List.mem_cons.mp h).elim (fun e => ha w (List.mem_cons.mpr (Or.inl e))) (fun h => (List.mem_append.mp h).elim (fun h => ha w (List.mem_cons.mpr (Or.inr h))) (hb w))
theorem goodIn_sub {big ws : List Cond} (hm : ∀ w ∈ ws, w ∈ big) (h : ws.all goodWord = true) : GoodIn big ws := fun w hw => ⟨hm w hw, good_of_word (List.all_eq_true.mp h w hw)⟩
/-! ===== END ===== -/
end
section
def RX0 : String := "HashTreeSigner$Address"
def TX0 : u_T := fun k => match k with
  | 0 => ("HashTreeSigner$Address", "bytes", "[B", true)
  | 1 => ("HashTreeSigner$Address", "layerAt", "I", true)
  | 2 => ("HashTreeSigner$Address", "treeAt", "I", true)
  | 3 => ("HashTreeSigner$Address", "typeAt", "I", true)
  | _ => ("HashTreeSigner$Address", "wordsAt", "I", true)
def tyX0 : Nat → FieldType := fun k => match k with
  | 0 => .array .byte
  | 1 => .int
  | 2 => .int
  | 3 => .int
  | _ => .int
abbrev wsX00 : List Cond := u_ws RX0 TX0 5
theorem nmX0 : ∀ a, a < 5 → ∀ b, b < 5 → a ≠ b → (TX0 a).2.1 ≠ (TX0 b).2.1 := by decide +kernel
theorem tyX0_ok : ∀ k, k < 5 → parseFieldDescriptor (TX0 k).2.2.1 = some (tyX0 k) := by decide +kernel
abbrev cX0_init : ByteArray := prog_2_method_1_code
def yX0_init : MethodName := ⟨RX0, "<init>", "(IIII)V"⟩
abbrev cX0_place : ByteArray := prog_2_method_2_code
def yX0_place : MethodName := ⟨RX0, "place", "(IJ)V"⟩
abbrev cX0_name : ByteArray := prog_2_method_3_code
def yX0_name : MethodName := ⟨RX0, "name", "(IIII)V"⟩
abbrev cX0_step : ByteArray := prog_2_method_4_code
def yX0_step : MethodName := ⟨RX0, "step", "(I)V"⟩
abbrev cX0_put : ByteArray := prog_2_method_5_code
def yX0_put : MethodName := ⟨RX0, "put", "(II)V"⟩
def RX1 : String := "HashTreeSigner$Chains"
def TX1 : u_T := fun k => match k with
  | 0 => ("HashTreeSigner$Chains", "ends", "[B", true)
  | 1 => ("HashTreeSigner$Chains", "first", "[I", true)
  | 2 => ("HashTreeSigner$Chains", "digits", "[I", true)
  | 3 => ("HashTreeSigner$Chains", "last", "[I", true)
  | 4 => ("HashTreeSigner$Chains", "family", "LHashTreeSigner$Family;", true)
  | 5 => ("HashTreeSigner$Chains", "n", "I", false)
  | _ => ("HashTreeSigner$Chains", "count", "I", false)
def tyX1 : Nat → FieldType := fun k => match k with
  | 0 => .array .byte
  | 1 => .array .int
  | 2 => .array .int
  | 3 => .array .int
  | 4 => .object "HashTreeSigner$Family"
  | 5 => .int
  | _ => .int
abbrev wsX10 : List Cond := u_ws RX1 TX1 7
theorem nmX1 : ∀ a, a < 7 → ∀ b, b < 7 → a ≠ b → (TX1 a).2.1 ≠ (TX1 b).2.1 := by decide +kernel
theorem tyX1_ok : ∀ k, k < 7 → parseFieldDescriptor (TX1 k).2.2.1 = some (tyX1 k) := by decide +kernel
abbrev cX1_init : ByteArray := prog_3_method_1_code
def yX1_init : MethodName := ⟨RX1, "<init>", "(LHashTreeSigner$Family;)V"⟩
abbrev cX1_open : ByteArray := prog_3_method_2_code
def yX1_open : MethodName := ⟨RX1, "open", "(LHashTreeSigner$Sizes;)V"⟩
abbrev cX1_setDigits : ByteArray := prog_3_method_3_code
def yX1_setDigits : MethodName := ⟨RX1, "setDigits", "([B)V"⟩
abbrev cX1_begin : ByteArray := prog_3_method_4_code
def yX1_begin : MethodName := ⟨RX1, "begin", "(I[BI)V"⟩
abbrev cX1_walk : ByteArray := prog_3_method_5_code
def yX1_walk : MethodName := ⟨RX1, "walk", "(I[I[I[BI)V"⟩
abbrev cX1_close : ByteArray := prog_3_method_6_code
def yX1_close : MethodName := ⟨RX1, "close", "(I[BI)V"⟩
def RX2 : String := "HashTreeSigner$Family"
def TX2 : u_T := fun k => match k with
  | _ => ("", "", "", false)
def tyX2 : Nat → FieldType := fun k => match k with
  | _ => .int
abbrev wsX20 : List Cond := u_ws RX2 TX2 0
theorem nmX2 : ∀ a, a < 0 → ∀ b, b < 0 → a ≠ b → (TX2 a).2.1 ≠ (TX2 b).2.1 := by decide +kernel
theorem tyX2_ok : ∀ k, k < 0 → parseFieldDescriptor (TX2 k).2.2.1 = some (tyX2 k) := by decide +kernel
abbrev cX2_init : ByteArray := prog_4_method_1_code
def yX2_init : MethodName := ⟨RX2, "<init>", "(LHashTreeSigner$Address;)V"⟩
abbrev cX2_open : ByteArray := prog_4_method_2_code
def yX2_open : MethodName := ⟨RX2, "open", "(I[BII)V"⟩
def RX3 : String := "HashTreeSigner$Sha2"
def TX3 : u_T := fun k => match k with
  | _ => ("", "", "", false)
def tyX3 : Nat → FieldType := fun k => match k with
  | _ => .int
abbrev wsX30 : List Cond := u_ws RX3 TX3 0
theorem nmX3 : ∀ a, a < 0 → ∀ b, b < 0 → a ≠ b → (TX3 a).2.1 ≠ (TX3 b).2.1 := by decide +kernel
theorem tyX3_ok : ∀ k, k < 0 → parseFieldDescriptor (TX3 k).2.2.1 = some (tyX3 k) := by decide +kernel
abbrev cX3_init : ByteArray := prog_5_method_1_code
def yX3_init : MethodName := ⟨RX3, "<init>", "(I)V"⟩
abbrev cX3_start : ByteArray := prog_5_method_3_code
def yX3_start : MethodName := ⟨RX3, "start", "()V"⟩
abbrev cX3_keep : ByteArray := prog_5_method_4_code
def yX3_keep : MethodName := ⟨RX3, "keep", "()V"⟩
abbrev cX3_resume : ByteArray := prog_5_method_5_code
def yX3_resume : MethodName := ⟨RX3, "resume", "()V"⟩
abbrev cX3_add : ByteArray := prog_5_method_6_code
def yX3_add : MethodName := ⟨RX3, "add", "([BII)V"⟩
abbrev cX3_finish : ByteArray := prog_5_method_7_code
def yX3_finish : MethodName := ⟨RX3, "finish", "([BII)V"⟩
def RX4 : String := "HashTreeSigner$Sha256"
def TX4 : u_T := fun k => match k with
  | 0 => ("HashTreeSigner$Sha2", "blockBytes", "I", true)
  | 1 => ("HashTreeSigner$Sha2", "block", "[B", true)
  | 2 => ("HashTreeSigner$Sha2", "state", "[J", true)
  | 3 => ("HashTreeSigner$Sha2", "wordShift", "I", true)
  | 4 => ("HashTreeSigner$Sha2", "kept", "[J", true)
  | 5 => ("HashTreeSigner$Sha2", "fill", "I", false)
  | 6 => ("HashTreeSigner$Sha2", "total", "J", false)
  | _ => ("HashTreeSigner$Sha256", "w", "[I", true)
def tyX4 : Nat → FieldType := fun k => match k with
  | 0 => .int
  | 1 => .array .byte
  | 2 => .array .long
  | 3 => .int
  | 4 => .array .long
  | 5 => .int
  | 6 => .long
  | _ => .array .int
abbrev wsX40 : List Cond := u_ws RX4 TX4 8
theorem nmX4 : ∀ a, a < 8 → ∀ b, b < 8 → a ≠ b → (TX4 a).2.1 ≠ (TX4 b).2.1 := by decide +kernel
theorem tyX4_ok : ∀ k, k < 8 → parseFieldDescriptor (TX4 k).2.2.1 = some (tyX4 k) := by decide +kernel
abbrev cX4_init : ByteArray := prog_6_method_1_code
def yX4_init : MethodName := ⟨RX4, "<init>", "()V"⟩
abbrev cX4_compress : ByteArray := prog_6_method_2_code
def yX4_compress : MethodName := ⟨RX4, "compress", "()V"⟩
def RX5 : String := "HashTreeSigner$Sha2Family"
def TX5 : u_T := fun k => match k with
  | 0 => ("HashTreeSigner$Family", "address", "LHashTreeSigner$Address;", true)
  | 1 => ("HashTreeSigner$Family", "key", "[B", true)
  | 2 => ("HashTreeSigner$Family", "n", "I", false)
  | 3 => ("HashTreeSigner$Sha2Family", "narrow", "LHashTreeSigner$Sha2;", true)
  | 4 => ("HashTreeSigner$Sha2Family", "wide", "LHashTreeSigner$Sha2;", true)
  | 5 => ("HashTreeSigner$Sha2Family", "pad", "[B", true)
  | 6 => ("HashTreeSigner$Sha2Family", "inner", "[B", true)
  | _ => ("HashTreeSigner$Sha2Family", "counter", "[B", true)
def tyX5 : Nat → FieldType := fun k => match k with
  | 0 => .object "HashTreeSigner$Address"
  | 1 => .array .byte
  | 2 => .int
  | 3 => .object "HashTreeSigner$Sha2"
  | 4 => .object "HashTreeSigner$Sha2"
  | 5 => .array .byte
  | 6 => .array .byte
  | _ => .array .byte
abbrev wsX50 : List Cond := u_ws RX5 TX5 8
theorem nmX5 : ∀ a, a < 8 → ∀ b, b < 8 → a ≠ b → (TX5 a).2.1 ≠ (TX5 b).2.1 := by decide +kernel
theorem tyX5_ok : ∀ k, k < 8 → parseFieldDescriptor (TX5 k).2.2.1 = some (tyX5 k) := by decide +kernel
abbrev cX5_init : ByteArray := prog_7_method_1_code
def yX5_init : MethodName := ⟨RX5, "<init>", "()V"⟩
abbrev cX5_useSeed : ByteArray := prog_7_method_2_code
def yX5_useSeed : MethodName := ⟨RX5, "useSeed", "()V"⟩
abbrev cX5_f : ByteArray := prog_7_method_3_code
def yX5_f : MethodName := ⟨RX5, "f", "([BII[BI)V"⟩
abbrev cX5_randomize : ByteArray := prog_7_method_4_code
def yX5_randomize : MethodName := ⟨RX5, "randomize", "([BI[BI[B)V"⟩
abbrev cX5_digest : ByteArray := prog_7_method_5_code
def yX5_digest : MethodName := ⟨RX5, "digest", "([B[BI[BI)V"⟩
abbrev cX5_messageHash : ByteArray := prog_7_method_6_code
def yX5_messageHash : MethodName := ⟨RX5, "messageHash", "()LHashTreeSigner$Sha2;"⟩
abbrev cX5_startKeyed : ByteArray := prog_7_method_7_code
def yX5_startKeyed : MethodName := ⟨RX5, "startKeyed", "(LHashTreeSigner$Sha2;I)V"⟩
def RX6 : String := "HashTreeSigner$Sha512"
def TX6 : u_T := fun k => match k with
  | 0 => ("HashTreeSigner$Sha2", "blockBytes", "I", true)
  | 1 => ("HashTreeSigner$Sha2", "block", "[B", true)
  | 2 => ("HashTreeSigner$Sha2", "state", "[J", true)
  | 3 => ("HashTreeSigner$Sha2", "wordShift", "I", true)
  | 4 => ("HashTreeSigner$Sha2", "kept", "[J", true)
  | 5 => ("HashTreeSigner$Sha2", "fill", "I", false)
  | 6 => ("HashTreeSigner$Sha2", "total", "J", false)
  | _ => ("HashTreeSigner$Sha512", "w", "[J", true)
def tyX6 : Nat → FieldType := fun k => match k with
  | 0 => .int
  | 1 => .array .byte
  | 2 => .array .long
  | 3 => .int
  | 4 => .array .long
  | 5 => .int
  | 6 => .long
  | _ => .array .long
abbrev wsX60 : List Cond := u_ws RX6 TX6 8
theorem nmX6 : ∀ a, a < 8 → ∀ b, b < 8 → a ≠ b → (TX6 a).2.1 ≠ (TX6 b).2.1 := by decide +kernel
theorem tyX6_ok : ∀ k, k < 8 → parseFieldDescriptor (TX6 k).2.2.1 = some (tyX6 k) := by decide +kernel
abbrev cX6_init : ByteArray := prog_8_method_1_code
def yX6_init : MethodName := ⟨RX6, "<init>", "()V"⟩
abbrev cX6_compress : ByteArray := prog_8_method_2_code
def yX6_compress : MethodName := ⟨RX6, "compress", "()V"⟩
def RX7 : String := "HashTreeSigner$ShakeFamily"
def TX7 : u_T := fun k => match k with
  | 0 => ("HashTreeSigner$Family", "address", "LHashTreeSigner$Address;", true)
  | 1 => ("HashTreeSigner$Family", "key", "[B", true)
  | 2 => ("HashTreeSigner$Family", "n", "I", false)
  | _ => ("HashTreeSigner$ShakeFamily", "sponge", "LHashTreeSigner$Sponge;", true)
def tyX7 : Nat → FieldType := fun k => match k with
  | 0 => .object "HashTreeSigner$Address"
  | 1 => .array .byte
  | 2 => .int
  | _ => .object "HashTreeSigner$Sponge"
abbrev wsX70 : List Cond := u_ws RX7 TX7 4
theorem nmX7 : ∀ a, a < 4 → ∀ b, b < 4 → a ≠ b → (TX7 a).2.1 ≠ (TX7 b).2.1 := by decide +kernel
theorem tyX7_ok : ∀ k, k < 4 → parseFieldDescriptor (TX7 k).2.2.1 = some (tyX7 k) := by decide +kernel
abbrev cX7_init : ByteArray := prog_9_method_1_code
def yX7_init : MethodName := ⟨RX7, "<init>", "()V"⟩
abbrev cX7_useSeed : ByteArray := prog_9_method_2_code
def yX7_useSeed : MethodName := ⟨RX7, "useSeed", "()V"⟩
abbrev cX7_f : ByteArray := prog_9_method_3_code
def yX7_f : MethodName := ⟨RX7, "f", "([BII[BI)V"⟩
abbrev cX7_randomize : ByteArray := prog_9_method_4_code
def yX7_randomize : MethodName := ⟨RX7, "randomize", "([BI[BI[B)V"⟩
abbrev cX7_digest : ByteArray := prog_9_method_5_code
def yX7_digest : MethodName := ⟨RX7, "digest", "([B[BI[BI)V"⟩
def RX8 : String := "HashTreeSigner$Sizes"
def TX8 : u_T := fun k => match k with
  | _ => ("", "", "", false)
def tyX8 : Nat → FieldType := fun k => match k with
  | _ => .int
abbrev wsX80 : List Cond := u_ws RX8 TX8 0
theorem nmX8 : ∀ a, a < 0 → ∀ b, b < 0 → a ≠ b → (TX8 a).2.1 ≠ (TX8 b).2.1 := by decide +kernel
theorem tyX8_ok : ∀ k, k < 0 → parseFieldDescriptor (TX8 k).2.2.1 = some (tyX8 k) := by decide +kernel
def RX9 : String := "HashTreeSigner$Sponge"
def TX9 : u_T := fun k => match k with
  | 0 => ("HashTreeSigner$Sponge", "lanes", "[J", true)
  | 1 => ("HashTreeSigner$Sponge", "mixed", "[J", true)
  | _ => ("HashTreeSigner$Sponge", "fill", "I", false)
def tyX9 : Nat → FieldType := fun k => match k with
  | 0 => .array .long
  | 1 => .array .long
  | _ => .int
abbrev wsX90 : List Cond := u_ws RX9 TX9 3
theorem nmX9 : ∀ a, a < 3 → ∀ b, b < 3 → a ≠ b → (TX9 a).2.1 ≠ (TX9 b).2.1 := by decide +kernel
theorem tyX9_ok : ∀ k, k < 3 → parseFieldDescriptor (TX9 k).2.2.1 = some (tyX9 k) := by decide +kernel
abbrev cX9_init : ByteArray := prog_11_method_1_code
def yX9_init : MethodName := ⟨RX9, "<init>", "()V"⟩
abbrev cX9_start : ByteArray := prog_11_method_2_code
def yX9_start : MethodName := ⟨RX9, "start", "()V"⟩
abbrev cX9_add : ByteArray := prog_11_method_3_code
def yX9_add : MethodName := ⟨RX9, "add", "([BII)V"⟩
abbrev cX9_finish : ByteArray := prog_11_method_4_code
def yX9_finish : MethodName := ⟨RX9, "finish", "([BII)V"⟩
abbrev cX9_permute : ByteArray := prog_11_method_5_code
def yX9_permute : MethodName := ⟨RX9, "permute", "()V"⟩
def RX10 : String := "HashTreeSigner$Trees"
def TX10 : u_T := fun k => match k with
  | 0 => ("HashTreeSigner$Trees", "x", "[B", true)
  | 1 => ("HashTreeSigner$Trees", "family", "LHashTreeSigner$Family;", true)
  | 2 => ("HashTreeSigner$Trees", "chains", "LHashTreeSigner$Chains;", true)
  | 3 => ("HashTreeSigner$Trees", "digest", "[B", true)
  | 4 => ("HashTreeSigner$Trees", "roots", "[B", true)
  | 5 => ("HashTreeSigner$Trees", "pairs", "[B", true)
  | 6 => ("HashTreeSigner$Trees", "sizes", "LHashTreeSigner$Sizes;", false)
  | 7 => ("HashTreeSigner$Trees", "n", "I", false)
  | 8 => ("HashTreeSigner$Trees", "tree", "J", false)
  | 9 => ("HashTreeSigner$Trees", "leaf", "I", false)
  | 10 => ("HashTreeSigner$Trees", "type", "I", false)
  | _ => ("HashTreeSigner$Trees", "pair", "I", false)
def tyX10 : Nat → FieldType := fun k => match k with
  | 0 => .array .byte
  | 1 => .object "HashTreeSigner$Family"
  | 2 => .object "HashTreeSigner$Chains"
  | 3 => .array .byte
  | 4 => .array .byte
  | 5 => .array .byte
  | 6 => .object "HashTreeSigner$Sizes"
  | 7 => .int
  | 8 => .long
  | 9 => .int
  | 10 => .int
  | _ => .int
abbrev wsX100 : List Cond := u_ws RX10 TX10 12
theorem nmX10 : ∀ a, a < 12 → ∀ b, b < 12 → a ≠ b → (TX10 a).2.1 ≠ (TX10 b).2.1 := by decide +kernel
theorem tyX10_ok : ∀ k, k < 12 → parseFieldDescriptor (TX10 k).2.2.1 = some (tyX10 k) := by decide +kernel
abbrev cX10_init : ByteArray := prog_12_method_1_code
def yX10_init : MethodName := ⟨RX10, "<init>", "(LHashTreeSigner$Family;)V"⟩
abbrev cX10_open : ByteArray := prog_12_method_2_code
def yX10_open : MethodName := ⟨RX10, "open", "(LHashTreeSigner$Sizes;[BII)V"⟩
abbrev cX10_randomize : ByteArray := prog_12_method_3_code
def yX10_randomize : MethodName := ⟨RX10, "randomize", "([BI[BI[B)V"⟩
abbrev cX10_choose : ByteArray := prog_12_method_4_code
def yX10_choose : MethodName := ⟨RX10, "choose", "([B[BI)V"⟩
abbrev cX10_enterLayer : ByteArray := prog_12_method_5_code
def yX10_enterLayer : MethodName := ⟨RX10, "enterLayer", "(IJ)V"⟩
abbrev cX10_signForest : ByteArray := prog_12_method_6_code
def yX10_signForest : MethodName := ⟨RX10, "signForest", "([BI)I"⟩
abbrev cX10_forestRoot : ByteArray := prog_12_method_7_code
def yX10_forestRoot : MethodName := ⟨RX10, "forestRoot", "([BI)I"⟩
abbrev cX10_signLayer : ByteArray := prog_12_method_8_code
def yX10_signLayer : MethodName := ⟨RX10, "signLayer", "(I[BI)I"⟩
abbrev cX10_layerRoot : ByteArray := prog_12_method_9_code
def yX10_layerRoot : MethodName := ⟨RX10, "layerRoot", "(I[BI)I"⟩
abbrev cX10_node : ByteArray := prog_12_method_10_code
def yX10_node : MethodName := ⟨RX10, "node", "(II[BI)V"⟩
abbrev cX10_climb : ByteArray := prog_12_method_11_code
def yX10_climb : MethodName := ⟨RX10, "climb", "(II[BI[BI)V"⟩
abbrev cX10_forestLeaf : ByteArray := prog_12_method_12_code
def yX10_forestLeaf : MethodName := ⟨RX10, "forestLeaf", "(II)V"⟩
abbrev cX10_enterForest : ByteArray := prog_12_method_13_code
def yX10_enterForest : MethodName := ⟨RX10, "enterForest", "()V"⟩
abbrev cX10_chosen : ByteArray := prog_12_method_14_code
def yX10_chosen : MethodName := ⟨RX10, "chosen", "(I)I"⟩
abbrev cX10_number : ByteArray := prog_12_method_15_code
def yX10_number : MethodName := ⟨RX10, "number", "(II)J"⟩
def RX11 : String := "HashTreeSigner"
def TX11 : u_T := fun k => match k with
  | 0 => ("HashTreeSigner", "slots", "[[B", true)
  | 1 => ("HashTreeSigner", "lengths", "[I", true)
  | 2 => ("HashTreeSigner", "tape", "[B", true)
  | 3 => ("HashTreeSigner", "tapeLength", "I", false)
  | 4 => ("HashTreeSigner", "signed", "[B", true)
  | 5 => ("HashTreeSigner", "signedLength", "I", false)
  | 6 => ("HashTreeSigner", "shakeTrees", "LHashTreeSigner$Trees;", true)
  | _ => ("HashTreeSigner", "sha2Trees", "LHashTreeSigner$Trees;", true)
def tyX11 : Nat → FieldType := fun k => match k with
  | 0 => .array (.array .byte)
  | 1 => .array .int
  | 2 => .array .byte
  | 3 => .int
  | 4 => .array .byte
  | 5 => .int
  | 6 => .object "HashTreeSigner$Trees"
  | _ => .object "HashTreeSigner$Trees"
abbrev wsX110 : List Cond := u_ws RX11 TX11 8
theorem nmX11 : ∀ a, a < 8 → ∀ b, b < 8 → a ≠ b → (TX11 a).2.1 ≠ (TX11 b).2.1 := by decide +kernel
theorem tyX11_ok : ∀ k, k < 8 → parseFieldDescriptor (TX11 k).2.2.1 = some (tyX11 k) := by decide +kernel
abbrev cX11_init : ByteArray := prog_1_method_1_code
def yX11_init : MethodName := ⟨RX11, "<init>", "()V"⟩
abbrev cX11_feed : ByteArray := prog_1_method_2_code
def yX11_feed : MethodName := ⟨RX11, "feed", "(IIIII)I"⟩
abbrev cX11_end : ByteArray := prog_1_method_3_code
def yX11_end : MethodName := ⟨RX11, "end", "(II)I"⟩
abbrev cX11_copy : ByteArray := prog_1_method_4_code
def yX11_copy : MethodName := ⟨RX11, "copy", "(II)I"⟩
abbrev cX11_resize : ByteArray := prog_1_method_5_code
def yX11_resize : MethodName := ⟨RX11, "resize", "(II)I"⟩
abbrev cX11_alter : ByteArray := prog_1_method_6_code
def yX11_alter : MethodName := ⟨RX11, "alter", "(III)I"⟩
abbrev cX11_length : ByteArray := prog_1_method_7_code
def yX11_length : MethodName := ⟨RX11, "length", "(I)I"⟩
abbrev cX11_word : ByteArray := prog_1_method_8_code
def yX11_word : MethodName := ⟨RX11, "word", "(II)J"⟩
abbrev cX11_same : ByteArray := prog_1_method_9_code
def yX11_same : MethodName := ⟨RX11, "same", "(II)Z"⟩
abbrev cX11_slhKeys : ByteArray := prog_1_method_10_code
def yX11_slhKeys : MethodName := ⟨RX11, "slhKeys", "(I)I"⟩
abbrev cX11_slhSign : ByteArray := prog_1_method_11_code
def yX11_slhSign : MethodName := ⟨RX11, "slhSign", "(II)I"⟩
abbrev cX11_slhVerify : ByteArray := prog_1_method_12_code
def yX11_slhVerify : MethodName := ⟨RX11, "slhVerify", "(II)Z"⟩
abbrev cX11_slhNode : ByteArray := prog_1_method_13_code
def yX11_slhNode : MethodName := ⟨RX11, "slhNode", "(IIIII)I"⟩
abbrev cX11_checkSlot : ByteArray := prog_1_method_14_code
def yX11_checkSlot : MethodName := ⟨RX11, "checkSlot", "(I)V"⟩
abbrev cX11_checkCount : ByteArray := prog_1_method_15_code
def yX11_checkCount : MethodName := ⟨RX11, "checkCount", "(I)V"⟩
abbrev cX11_checkSet : ByteArray := prog_1_method_16_code
def yX11_checkSet : MethodName := ⟨RX11, "checkSet", "(I)V"⟩
abbrev cX11_checkHow : ByteArray := prog_1_method_17_code
def yX11_checkHow : MethodName := ⟨RX11, "checkHow", "(I)V"⟩
abbrev cX11_checkPlace : ByteArray := prog_1_method_18_code
def yX11_checkPlace : MethodName := ⟨RX11, "checkPlace", "(II)V"⟩
abbrev cX11_checkContext : ByteArray := prog_1_method_19_code
def yX11_checkContext : MethodName := ⟨RX11, "checkContext", "(I)V"⟩
abbrev cX11_checkSecret : ByteArray := prog_1_method_20_code
def yX11_checkSecret : MethodName := ⟨RX11, "checkSecret", "(LHashTreeSigner$Sizes;)V"⟩
abbrev cX11_sizesOf : ByteArray := prog_1_method_21_code
def yX11_sizesOf : MethodName := ⟨RX11, "sizesOf", "(I)LHashTreeSigner$Sizes;"⟩
abbrev cX11_treesOf : ByteArray := prog_1_method_22_code
def yX11_treesOf : MethodName := ⟨RX11, "treesOf", "(I)LHashTreeSigner$Trees;"⟩
abbrev cX11_putOnTape : ByteArray := prog_1_method_23_code
def yX11_putOnTape : MethodName := ⟨RX11, "putOnTape", "(I)V"⟩
abbrev cX11_setSlot : ByteArray := prog_1_method_24_code
def yX11_setSlot : MethodName := ⟨RX11, "setSlot", "(I[BI)V"⟩
abbrev cX11_laySigned : ByteArray := prog_1_method_25_code
def yX11_laySigned : MethodName := ⟨RX11, "laySigned", "(I)V"⟩
abbrev cX11_alike : ByteArray := prog_1_method_26_code
def yX11_alike : MethodName := ⟨RX11, "alike", "([B[BII)Z"⟩
def RX12 : String := "HashTreeSignerModel"
def TX12 : u_T := fun k => match k with
  | 0 => ("HashTreeSignerModel", "tape", "[B", true)
  | 1 => ("HashTreeSignerModel", "slot", "[[B", true)
  | 2 => ("HashTreeSignerModel", "length", "[I", true)
  | 3 => ("HashTreeSignerModel", "taped", "I", false)
  | 4 => ("HashTreeSignerModel", "code", "I", false)
  | 5 => ("HashTreeSignerModel", "roots", "[J", true)
  | 6 => ("HashTreeSignerModel", "cubes", "[J", true)
  | 7 => ("HashTreeSignerModel", "start224", "[J", true)
  | 8 => ("HashTreeSignerModel", "start256", "[J", true)
  | 9 => ("HashTreeSignerModel", "limbs", "[J", true)
  | 10 => ("HashTreeSignerModel", "product", "[J", true)
  | 11 => ("HashTreeSignerModel", "turns", "[I", true)
  | 12 => ("HashTreeSignerModel", "round", "[J", true)
  | 13 => ("HashTreeSignerModel", "state", "[J", true)
  | 14 => ("HashTreeSignerModel", "other", "[J", true)
  | 15 => ("HashTreeSignerModel", "column", "[J", true)
  | 16 => ("HashTreeSignerModel", "words", "[J", true)
  | 17 => ("HashTreeSignerModel", "block", "[B", true)
  | 18 => ("HashTreeSignerModel", "kind", "I", false)
  | 19 => ("HashTreeSignerModel", "rate", "I", false)
  | 20 => ("HashTreeSignerModel", "filled", "I", false)
  | 21 => ("HashTreeSignerModel", "total", "J", false)
  | 22 => ("HashTreeSignerModel", "hashKey", "[B", true)
  | 23 => ("HashTreeSignerModel", "inner", "[B", true)
  | 24 => ("HashTreeSignerModel", "signed", "[B", true)
  | 25 => ("HashTreeSignerModel", "hash", "[B", true)
  | 26 => ("HashTreeSignerModel", "buffer", "[B", true)
  | 27 => ("HashTreeSignerModel", "packet", "[B", true)
  | 28 => ("HashTreeSignerModel", "address", "[B", true)
  | 29 => ("HashTreeSignerModel", "pairs", "[[B", true)
  | 30 => ("HashTreeSignerModel", "ends", "[B", true)
  | 31 => ("HashTreeSignerModel", "leaves", "[B", true)
  | 32 => ("HashTreeSignerModel", "secret", "[B", true)
  | 33 => ("HashTreeSignerModel", "walk", "[B", true)
  | 34 => ("HashTreeSignerModel", "long1", "[B", true)
  | 35 => ("HashTreeSignerModel", "told", "[B", true)
  | 36 => ("HashTreeSignerModel", "digits", "[I", true)
  | 37 => ("HashTreeSignerModel", "publicSeed", "[B", true)
  | 38 => ("HashTreeSignerModel", "secretSeed", "[B", true)
  | 39 => ("HashTreeSignerModel", "turn", "[B", true)
  | 40 => ("HashTreeSignerModel", "rootNow", "[B", true)
  | 41 => ("HashTreeSignerModel", "n", "I", false)
  | 42 => ("HashTreeSignerModel", "h", "I", false)
  | 43 => ("HashTreeSignerModel", "layers", "I", false)
  | 44 => ("HashTreeSignerModel", "height", "I", false)
  | 45 => ("HashTreeSignerModel", "a", "I", false)
  | 46 => ("HashTreeSignerModel", "trees", "I", false)
  | 47 => ("HashTreeSignerModel", "chains", "I", false)
  | _ => ("HashTreeSignerModel", "shake", "Z", false)
def tyX12 : Nat → FieldType := fun k => match k with
  | 0 => .array .byte
  | 1 => .array (.array .byte)
  | 2 => .array .int
  | 3 => .int
  | 4 => .int
  | 5 => .array .long
  | 6 => .array .long
  | 7 => .array .long
  | 8 => .array .long
  | 9 => .array .long
  | 10 => .array .long
  | 11 => .array .int
  | 12 => .array .long
  | 13 => .array .long
  | 14 => .array .long
  | 15 => .array .long
  | 16 => .array .long
  | 17 => .array .byte
  | 18 => .int
  | 19 => .int
  | 20 => .int
  | 21 => .long
  | 22 => .array .byte
  | 23 => .array .byte
  | 24 => .array .byte
  | 25 => .array .byte
  | 26 => .array .byte
  | 27 => .array .byte
  | 28 => .array .byte
  | 29 => .array (.array .byte)
  | 30 => .array .byte
  | 31 => .array .byte
  | 32 => .array .byte
  | 33 => .array .byte
  | 34 => .array .byte
  | 35 => .array .byte
  | 36 => .array .int
  | 37 => .array .byte
  | 38 => .array .byte
  | 39 => .array .byte
  | 40 => .array .byte
  | 41 => .int
  | 42 => .int
  | 43 => .int
  | 44 => .int
  | 45 => .int
  | 46 => .int
  | 47 => .int
  | _ => .boolean
abbrev wsX120 : List Cond := u_ws RX12 TX12 49
theorem nmX12 : ∀ a, a < 49 → ∀ b, b < 49 → a ≠ b → (TX12 a).2.1 ≠ (TX12 b).2.1 := by decide +kernel
theorem tyX12_ok : ∀ k, k < 49 → parseFieldDescriptor (TX12 k).2.2.1 = some (tyX12 k) := by decide +kernel
abbrev cX12_init : ByteArray := prog_14_method_1_code
def yX12_init : MethodName := ⟨RX12, "<init>", "()V"⟩
abbrev cX12_thrown : ByteArray := prog_14_method_2_code
def yX12_thrown : MethodName := ⟨RX12, "thrown", "()I"⟩
abbrev cX12_in : ByteArray := prog_14_method_3_code
def yX12_in : MethodName := ⟨RX12, "in", "(III)Z"⟩
abbrev cX12_good : ByteArray := prog_14_method_4_code
def yX12_good : MethodName := ⟨RX12, "good", "(ZI)Z"⟩
abbrev cX12_feed : ByteArray := prog_14_method_5_code
def yX12_feed : MethodName := ⟨RX12, "feed", "(IIIII)I"⟩
abbrev cX12_word : ByteArray := prog_14_method_6_code
def yX12_word : MethodName := ⟨RX12, "word", "(I)V"⟩
abbrev cX12_end : ByteArray := prog_14_method_7_code
def yX12_end : MethodName := ⟨RX12, "end", "(II)I"⟩
abbrev cX12_copy : ByteArray := prog_14_method_8_code
def yX12_copy : MethodName := ⟨RX12, "copy", "(II)I"⟩
abbrev cX12_resize : ByteArray := prog_14_method_9_code
def yX12_resize : MethodName := ⟨RX12, "resize", "(II)I"⟩
abbrev cX12_alter : ByteArray := prog_14_method_10_code
def yX12_alter : MethodName := ⟨RX12, "alter", "(III)I"⟩
abbrev cX12_length : ByteArray := prog_14_method_11_code
def yX12_length : MethodName := ⟨RX12, "length", "(I)I"⟩
abbrev cX12_word_ : ByteArray := prog_14_method_12_code
def yX12_word_ : MethodName := ⟨RX12, "word", "(II)J"⟩
abbrev cX12_same : ByteArray := prog_14_method_13_code
def yX12_same : MethodName := ⟨RX12, "same", "(II)Z"⟩
abbrev cX12_move : ByteArray := prog_14_method_14_code
def yX12_move : MethodName := ⟨RX12, "move", "([BI[BII)V"⟩
abbrev cX12_alike : ByteArray := prog_14_method_15_code
def yX12_alike : MethodName := ⟨RX12, "alike", "([BI[BII)Z"⟩
abbrev cX12_prime : ByteArray := prog_14_method_16_code
def yX12_prime : MethodName := ⟨RX12, "prime", "(I)Z"⟩
abbrev cX12_above : ByteArray := prog_14_method_17_code
def yX12_above : MethodName := ⟨RX12, "above", "(IJII)Z"⟩
abbrev cX12_root : ByteArray := prog_14_method_18_code
def yX12_root : MethodName := ⟨RX12, "root", "(II)J"⟩
abbrev cX12_constants : ByteArray := prog_14_method_19_code
def yX12_constants : MethodName := ⟨RX12, "constants", "()V"⟩
abbrev cX12_bit : ByteArray := prog_14_method_20_code
def yX12_bit : MethodName := ⟨RX12, "bit", "(I)I"⟩
abbrev cX12_named : ByteArray := prog_14_method_21_code
def yX12_named : MethodName := ⟨RX12, "named", "([JII)V"⟩
abbrev cX12_sponge : ByteArray := prog_14_method_22_code
def yX12_sponge : MethodName := ⟨RX12, "sponge", "()Z"⟩
abbrev cX12_blockOf : ByteArray := prog_14_method_23_code
def yX12_blockOf : MethodName := ⟨RX12, "blockOf", "(I)I"⟩
abbrev cX12_digestOf : ByteArray := prog_14_method_24_code
def yX12_digestOf : MethodName := ⟨RX12, "digestOf", "(I)I"⟩
abbrev cX12_begin : ByteArray := prog_14_method_25_code
def yX12_begin : MethodName := ⟨RX12, "begin", "(I)V"⟩
abbrev cX12_flip : ByteArray := prog_14_method_26_code
def yX12_flip : MethodName := ⟨RX12, "flip", "(II)V"⟩
abbrev cX12_put : ByteArray := prog_14_method_27_code
def yX12_put : MethodName := ⟨RX12, "put", "(I)V"⟩
abbrev cX12_put_ : ByteArray := prog_14_method_28_code
def yX12_put_ : MethodName := ⟨RX12, "put", "([BII)V"⟩
abbrev cX12_permute : ByteArray := prog_14_method_29_code
def yX12_permute : MethodName := ⟨RX12, "permute", "()V"⟩
abbrev cX12_left : ByteArray := prog_14_method_30_code
def yX12_left : MethodName := ⟨RX12, "left", "(JI)J"⟩
abbrev cX12_right : ByteArray := prog_14_method_31_code
def yX12_right : MethodName := ⟨RX12, "right", "(JI)J"⟩
abbrev cX12_turn : ByteArray := prog_14_method_32_code
def yX12_turn : MethodName := ⟨RX12, "turn", "(II)I"⟩
abbrev cX12_compress64 : ByteArray := prog_14_method_33_code
def yX12_compress64 : MethodName := ⟨RX12, "compress64", "()V"⟩
abbrev cX12_compress32 : ByteArray := prog_14_method_34_code
def yX12_compress32 : MethodName := ⟨RX12, "compress32", "()V"⟩
abbrev cX12_finish : ByteArray := prog_14_method_35_code
def yX12_finish : MethodName := ⟨RX12, "finish", "()V"⟩
abbrev cX12_squeeze : ByteArray := prog_14_method_36_code
def yX12_squeeze : MethodName := ⟨RX12, "squeeze", "()I"⟩
abbrev cX12_give : ByteArray := prog_14_method_37_code
def yX12_give : MethodName := ⟨RX12, "give", "([BII)V"⟩
abbrev cX12_startMac : ByteArray := prog_14_method_38_code
def yX12_startMac : MethodName := ⟨RX12, "startMac", "(I[BII)V"⟩
abbrev cX12_endMac : ByteArray := prog_14_method_39_code
def yX12_endMac : MethodName := ⟨RX12, "endMac", "(I[BII)V"⟩
abbrev cX12_mask : ByteArray := prog_14_method_40_code
def yX12_mask : MethodName := ⟨RX12, "mask", "(I[BI[BII)V"⟩
abbrev cX12_before : ByteArray := prog_14_method_41_code
def yX12_before : MethodName := ⟨RX12, "before", "(I)V"⟩
abbrev cX12_putSigned : ByteArray := prog_14_method_42_code
def yX12_putSigned : MethodName := ⟨RX12, "putSigned", "(I)V"⟩
abbrev cX12_context : ByteArray := prog_14_method_43_code
def yX12_context : MethodName := ⟨RX12, "context", "(I)Z"⟩
abbrev cX12_slh : ByteArray := prog_14_method_44_code
def yX12_slh : MethodName := ⟨RX12, "slh", "(I)V"⟩
abbrev cX12_place : ByteArray := prog_14_method_45_code
def yX12_place : MethodName := ⟨RX12, "place", "(IJ)V"⟩
abbrev cX12_type : ByteArray := prog_14_method_46_code
def yX12_type : MethodName := ⟨RX12, "type", "(IIII)V"⟩
abbrev cX12_hashed : ByteArray := prog_14_method_47_code
def yX12_hashed : MethodName := ⟨RX12, "hashed", "([BII[BI)V"⟩
abbrev cX12_pseudo : ByteArray := prog_14_method_48_code
def yX12_pseudo : MethodName := ⟨RX12, "pseudo", "([BI)V"⟩
abbrev cX12_chain : ByteArray := prog_14_method_49_code
def yX12_chain : MethodName := ⟨RX12, "chain", "(IIII[BI)V"⟩
abbrev cX12_leaf : ByteArray := prog_14_method_50_code
def yX12_leaf : MethodName := ⟨RX12, "leaf", "(I[BI)V"⟩
abbrev cX12_node : ByteArray := prog_14_method_51_code
def yX12_node : MethodName := ⟨RX12, "node", "(II[BI)V"⟩
abbrev cX12_digitsOf : ByteArray := prog_14_method_52_code
def yX12_digitsOf : MethodName := ⟨RX12, "digitsOf", "([BI)V"⟩
abbrev cX12_signTree : ByteArray := prog_14_method_53_code
def yX12_signTree : MethodName := ⟨RX12, "signTree", "([BII[BI)V"⟩
abbrev cX12_climb : ByteArray := prog_14_method_54_code
def yX12_climb : MethodName := ⟨RX12, "climb", "(IIII[BI)V"⟩
abbrev cX12_rootOf : ByteArray := prog_14_method_55_code
def yX12_rootOf : MethodName := ⟨RX12, "rootOf", "(I[BI[BI)V"⟩
abbrev cX12_forestNode : ByteArray := prog_14_method_56_code
def yX12_forestNode : MethodName := ⟨RX12, "forestNode", "(III[BI)V"⟩
abbrev cX12_numberOf : ByteArray := prog_14_method_57_code
def yX12_numberOf : MethodName := ⟨RX12, "numberOf", "(I)I"⟩
abbrev cX12_signForest : ByteArray := prog_14_method_58_code
def yX12_signForest : MethodName := ⟨RX12, "signForest", "(I[BI)V"⟩
abbrev cX12_rootOfForest : ByteArray := prog_14_method_59_code
def yX12_rootOfForest : MethodName := ⟨RX12, "rootOfForest", "(I[BI)V"⟩
abbrev cX12_large : ByteArray := prog_14_method_60_code
def yX12_large : MethodName := ⟨RX12, "large", "()I"⟩
abbrev cX12_digestTree : ByteArray := prog_14_method_61_code
def yX12_digestTree : MethodName := ⟨RX12, "digestTree", "([BII)V"⟩
abbrev cX12_treeNumber : ByteArray := prog_14_method_62_code
def yX12_treeNumber : MethodName := ⟨RX12, "treeNumber", "()J"⟩
abbrev cX12_pairNumber : ByteArray := prog_14_method_63_code
def yX12_pairNumber : MethodName := ⟨RX12, "pairNumber", "()I"⟩
abbrev cX12_slhKeys : ByteArray := prog_14_method_64_code
def yX12_slhKeys : MethodName := ⟨RX12, "slhKeys", "(I)I"⟩
abbrev cX12_slhSign : ByteArray := prog_14_method_65_code
def yX12_slhSign : MethodName := ⟨RX12, "slhSign", "(II)I"⟩
abbrev cX12_slhVerify : ByteArray := prog_14_method_66_code
def yX12_slhVerify : MethodName := ⟨RX12, "slhVerify", "(II)Z"⟩
abbrev cX12_slhNode : ByteArray := prog_14_method_67_code
def yX12_slhNode : MethodName := ⟨RX12, "slhNode", "(IIIII)I"⟩
def RJ5 : String := "java/lang/AbstractStringBuilder"
def TJ5 : u_T := fun k => match k with
  | _ => ("", "", "", false)
def tyJ5 : Nat → FieldType := fun k => match k with
  | _ => .int
abbrev wsJ50 : List Cond := u_ws RJ5 TJ5 0
theorem nmJ5 : ∀ a, a < 0 → ∀ b, b < 0 → a ≠ b → (TJ5 a).2.1 ≠ (TJ5 b).2.1 := by decide +kernel
theorem tyJ5_ok : ∀ k, k < 0 → parseFieldDescriptor (TJ5 k).2.2.1 = some (tyJ5 k) := by decide +kernel
abbrev cJ5_init_d00df : ByteArray := prog_15_method_2_code
def yJ5_init_d00df : MethodName := ⟨RJ5, "<init>", "(I)V"⟩
abbrev cJ5_length_8abf5 : ByteArray := prog_15_method_6_code
def yJ5_length_8abf5 : MethodName := ⟨RJ5, "length", "()I"⟩
abbrev cJ5_ensureCapacityInternal_d00df : ByteArray := prog_15_method_9_code
def yJ5_ensureCapacityInternal_d00df : MethodName := ⟨RJ5, "ensureCapacityInternal", "(I)V"⟩
abbrev cJ5_newCapacity_0f7a4 : ByteArray := prog_15_method_10_code
def yJ5_newCapacity_0f7a4 : MethodName := ⟨RJ5, "newCapacity", "(I)I"⟩
abbrev cJ5_inflate_da8c8 : ByteArray := prog_15_method_11_code
def yJ5_inflate_da8c8 : MethodName := ⟨RJ5, "inflate", "()V"⟩
abbrev cJ5_append_cf1ce : ByteArray := prog_15_method_22_code
def yJ5_append_cf1ce : MethodName := ⟨RJ5, "append", "(Ljava/lang/String;)Ljava/lang/AbstractStringBuilder;"⟩
abbrev cJ5_appendNull_278bc : ByteArray := prog_15_method_26_code
def yJ5_appendNull_278bc : MethodName := ⟨RJ5, "appendNull", "()Ljava/lang/AbstractStringBuilder;"⟩
abbrev cJ5_append_c97b9 : ByteArray := prog_15_method_32_code
def yJ5_append_c97b9 : MethodName := ⟨RJ5, "append", "(I)Ljava/lang/AbstractStringBuilder;"⟩
abbrev cJ5_getValue_6d5f1 : ByteArray := prog_15_method_64_code
def yJ5_getValue_6d5f1 : MethodName := ⟨RJ5, "getValue", "()[B"⟩
abbrev cJ5_isLatin1_aae02 : ByteArray := prog_15_method_68_code
def yJ5_isLatin1_aae02 : MethodName := ⟨RJ5, "isLatin1", "()Z"⟩
abbrev cJ5_inflateIfNeededFor_a7421 : ByteArray := prog_15_method_71_code
def yJ5_inflateIfNeededFor_a7421 : MethodName := ⟨RJ5, "inflateIfNeededFor", "(Ljava/lang/String;)V"⟩
abbrev cJ5_putStringAt_47b60 : ByteArray := prog_15_method_73_code
def yJ5_putStringAt_47b60 : MethodName := ⟨RJ5, "putStringAt", "(ILjava/lang/String;)V"⟩
def RJx00060 : String := "java/lang/ArrayIndexOutOfBoundsException"
def TJx00060 : u_T := fun k => match k with
  | 0 => ("java/lang/Throwable", "backtrace", "Ljava/lang/Object;", false)
  | 1 => ("java/lang/Throwable", "detailMessage", "Ljava/lang/String;", false)
  | 2 => ("java/lang/Throwable", "cause", "Ljava/lang/Throwable;", false)
  | 3 => ("java/lang/Throwable", "stackTrace", "[Ljava/lang/StackTraceElement;", false)
  | 4 => ("java/lang/Throwable", "depth", "I", false)
  | _ => ("java/lang/Throwable", "suppressedExceptions", "Ljava/util/List;", false)
def tyJx00060 : Nat → FieldType := fun k => match k with
  | 0 => .object "java/lang/Object"
  | 1 => .object "java/lang/String"
  | 2 => .object "java/lang/Throwable"
  | 3 => .array (.object "java/lang/StackTraceElement")
  | 4 => .int
  | _ => .object "java/util/List"
abbrev wsJx000600 : List Cond := u_ws RJx00060 TJx00060 6
theorem nmJx00060 : ∀ a, a < 6 → ∀ b, b < 6 → a ≠ b → (TJx00060 a).2.1 ≠ (TJx00060 b).2.1 := by decide +kernel
theorem tyJx00060_ok : ∀ k, k < 6 → parseFieldDescriptor (TJx00060 k).2.2.1 = some (tyJx00060 k) := by decide +kernel
abbrev cJx00060_init_d00df : ByteArray := prog_16_method_3_code
def yJx00060_init_d00df : MethodName := ⟨RJx00060, "<init>", "(I)V"⟩
def RJx8e188 : String := "java/lang/Cloneable"
def TJx8e188 : u_T := fun k => match k with
  | _ => ("", "", "", false)
def tyJx8e188 : Nat → FieldType := fun k => match k with
  | _ => .int
abbrev wsJx8e1880 : List Cond := u_ws RJx8e188 TJx8e188 0
theorem nmJx8e188 : ∀ a, a < 0 → ∀ b, b < 0 → a ≠ b → (TJx8e188 a).2.1 ≠ (TJx8e188 b).2.1 := by decide +kernel
theorem tyJx8e188_ok : ∀ k, k < 0 → parseFieldDescriptor (TJx8e188 k).2.2.1 = some (tyJx8e188 k) := by decide +kernel
def RJx29ce0 : String := "java/lang/Enum"
def TJx29ce0 : u_T := fun k => match k with
  | _ => ("", "", "", false)
def tyJx29ce0 : Nat → FieldType := fun k => match k with
  | _ => .int
abbrev wsJx29ce00 : List Cond := u_ws RJx29ce0 TJx29ce0 0
theorem nmJx29ce0 : ∀ a, a < 0 → ∀ b, b < 0 → a ≠ b → (TJx29ce0 a).2.1 ≠ (TJx29ce0 b).2.1 := by decide +kernel
theorem tyJx29ce0_ok : ∀ k, k < 0 → parseFieldDescriptor (TJx29ce0 k).2.2.1 = some (tyJx29ce0 k) := by decide +kernel
def RJ6 : String := "java/lang/Integer"
def TJ6 : u_T := fun k => match k with
  | _ => ("", "", "", false)
def tyJ6 : Nat → FieldType := fun k => match k with
  | _ => .int
abbrev wsJ60 : List Cond := u_ws RJ6 TJ6 0
theorem nmJ6 : ∀ a, a < 0 → ∀ b, b < 0 → a ≠ b → (TJ6 a).2.1 ≠ (TJ6 b).2.1 := by decide +kernel
theorem tyJ6_ok : ∀ k, k < 0 → parseFieldDescriptor (TJ6 k).2.2.1 = some (tyJ6 k) := by decide +kernel
abbrev cJ6_getChars_ba4f3 : ByteArray := prog_23_method_12_code
def yJ6_getChars_ba4f3 : MethodName := ⟨RJ6, "getChars", "(II[B)I"⟩
abbrev cJ6_stringSize_0f7a4 : ByteArray := prog_23_method_13_code
def yJ6_stringSize_0f7a4 : MethodName := ⟨RJ6, "stringSize", "(I)I"⟩
abbrev cJ6_rotateRight_7cf53 : ByteArray := prog_23_method_51_code
def yJ6_rotateRight_7cf53 : MethodName := ⟨RJ6, "rotateRight", "(II)I"⟩
def RJ13 : String := "java/lang/Long"
def TJ13 : u_T := fun k => match k with
  | _ => ("", "", "", false)
def tyJ13 : Nat → FieldType := fun k => match k with
  | _ => .int
abbrev wsJ130 : List Cond := u_ws RJ13 TJ13 0
theorem nmJ13 : ∀ a, a < 0 → ∀ b, b < 0 → a ≠ b → (TJ13 a).2.1 ≠ (TJ13 b).2.1 := by decide +kernel
theorem tyJ13_ok : ∀ k, k < 0 → parseFieldDescriptor (TJ13 k).2.2.1 = some (tyJ13 k) := by decide +kernel
abbrev cJ13_rotateLeft_b2ac5 : ByteArray := prog_24_method_51_code
def yJ13_rotateLeft_b2ac5 : MethodName := ⟨RJ13, "rotateLeft", "(JI)J"⟩
abbrev cJ13_rotateRight_b2ac5 : ByteArray := prog_24_method_52_code
def yJ13_rotateRight_b2ac5 : MethodName := ⟨RJ13, "rotateRight", "(JI)J"⟩
def RJ9 : String := "java/lang/Math"
def TJ9 : u_T := fun k => match k with
  | _ => ("", "", "", false)
def tyJ9 : Nat → FieldType := fun k => match k with
  | _ => .int
abbrev wsJ90 : List Cond := u_ws RJ9 TJ9 0
theorem nmJ9 : ∀ a, a < 0 → ∀ b, b < 0 → a ≠ b → (TJ9 a).2.1 ≠ (TJ9 b).2.1 := by decide +kernel
theorem tyJ9_ok : ∀ k, k < 0 → parseFieldDescriptor (TJ9 k).2.2.1 = some (tyJ9 k) := by decide +kernel
abbrev cJ9_max_7cf53 : ByteArray := prog_25_method_65_code
def yJ9_max_7cf53 : MethodName := ⟨RJ9, "max", "(II)I"⟩
abbrev cJ9_min_7cf53 : ByteArray := prog_25_method_69_code
def yJ9_min_7cf53 : MethodName := ⟨RJ9, "min", "(II)I"⟩
def RJ0 : String := "java/lang/String"
def TJ0 : u_T := fun k => match k with
  | 0 => ("java/lang/String", "value", "[B", true)
  | 1 => ("java/lang/String", "coder", "B", true)
  | 2 => ("java/lang/String", "hash", "I", false)
  | _ => ("java/lang/String", "hashIsZero", "Z", false)
def tyJ0 : Nat → FieldType := fun k => match k with
  | 0 => .array .byte
  | 1 => .byte
  | 2 => .int
  | _ => .boolean
abbrev wsJ00 : List Cond := u_ws RJ0 TJ0 4
theorem nmJ0 : ∀ a, a < 4 → ∀ b, b < 4 → a ≠ b → (TJ0 a).2.1 ≠ (TJ0 b).2.1 := by decide +kernel
theorem tyJ0_ok : ∀ k, k < 4 → parseFieldDescriptor (TJ0 k).2.2.1 = some (tyJ0 k) := by decide +kernel
abbrev cJ0_init_81219 : ByteArray := prog_27_method_53_code
def yJ0_init_81219 : MethodName := ⟨RJ0, "<init>", "(Ljava/lang/StringBuilder;)V"⟩
abbrev cJ0_length_8abf5 : ByteArray := prog_27_method_54_code
def yJ0_length_8abf5 : MethodName := ⟨RJ0, "length", "()I"⟩
abbrev cJ0_getBytes_840e7 : ByteArray := prog_27_method_147_code
def yJ0_getBytes_840e7 : MethodName := ⟨RJ0, "getBytes", "([BIB)V"⟩
abbrev cJ0_init_db425 : ByteArray := prog_27_method_150_code
def yJ0_init_db425 : MethodName := ⟨RJ0, "<init>", "(Ljava/lang/AbstractStringBuilder;Ljava/lang/Void;)V"⟩
abbrev cJ0_coder_7d493 : ByteArray := prog_27_method_152_code
def yJ0_coder_7d493 : MethodName := ⟨RJ0, "coder", "()B"⟩
abbrev cJ0_checkBoundsOffCount_cabcc : ByteArray := prog_27_method_157_code
def yJ0_checkBoundsOffCount_cabcc : MethodName := ⟨RJ0, "checkBoundsOffCount", "(III)I"⟩
abbrev cJ0_checkBoundsBeginEnd_23922 : ByteArray := prog_27_method_158_code
def yJ0_checkBoundsBeginEnd_23922 : MethodName := ⟨RJ0, "checkBoundsBeginEnd", "(III)V"⟩
def RJ4 : String := "java/lang/StringBuilder"
def TJ4 : u_T := fun k => match k with
  | 0 => ("java/lang/AbstractStringBuilder", "value", "[B", false)
  | 1 => ("java/lang/AbstractStringBuilder", "coder", "B", false)
  | 2 => ("java/lang/AbstractStringBuilder", "maybeLatin1", "Z", false)
  | _ => ("java/lang/AbstractStringBuilder", "count", "I", false)
def tyJ4 : Nat → FieldType := fun k => match k with
  | 0 => .array .byte
  | 1 => .byte
  | 2 => .boolean
  | _ => .int
abbrev wsJ40 : List Cond := u_ws RJ4 TJ4 4
theorem nmJ4 : ∀ a, a < 4 → ∀ b, b < 4 → a ≠ b → (TJ4 a).2.1 ≠ (TJ4 b).2.1 := by decide +kernel
theorem tyJ4_ok : ∀ k, k < 4 → parseFieldDescriptor (TJ4 k).2.2.1 = some (tyJ4 k) := by decide +kernel
abbrev cJ4_init_da8c8 : ByteArray := prog_28_method_1_code
def yJ4_init_da8c8 : MethodName := ⟨RJ4, "<init>", "()V"⟩
abbrev cJ4_append_15ec4 : ByteArray := prog_28_method_7_code
def yJ4_append_15ec4 : MethodName := ⟨RJ4, "append", "(Ljava/lang/String;)Ljava/lang/StringBuilder;"⟩
abbrev cJ4_append_bf812 : ByteArray := prog_28_method_15_code
def yJ4_append_bf812 : MethodName := ⟨RJ4, "append", "(I)Ljava/lang/StringBuilder;"⟩
abbrev cJ4_toString_0e30d : ByteArray := prog_28_method_42_code
def yJ4_toString_0e30d : MethodName := ⟨RJ4, "toString", "()Ljava/lang/String;"⟩
abbrev cJ4_length_8abf5 : ByteArray := prog_28_method_93_code
def yJ4_length_8abf5 : MethodName := ⟨RJ4, "length", "()I"⟩
def RJ1 : String := "java/lang/StringLatin1"
def TJ1 : u_T := fun k => match k with
  | _ => ("", "", "", false)
def tyJ1 : Nat → FieldType := fun k => match k with
  | _ => .int
abbrev wsJ10 : List Cond := u_ws RJ1 TJ1 0
theorem nmJ1 : ∀ a, a < 0 → ∀ b, b < 0 → a ≠ b → (TJ1 a).2.1 ≠ (TJ1 b).2.1 := by decide +kernel
theorem tyJ1_ok : ∀ k, k < 0 → parseFieldDescriptor (TJ1 k).2.2.1 = some (tyJ1 k) := by decide +kernel
abbrev cJ1_inflate_0e8fd : ByteArray := prog_29_method_50_code
def yJ1_inflate_0e8fd : MethodName := ⟨RJ1, "inflate", "([BI[BII)V"⟩
def RJ2 : String := "java/lang/StringUTF16"
def TJ2 : u_T := fun k => match k with
  | _ => ("", "", "", false)
def tyJ2 : Nat → FieldType := fun k => match k with
  | _ => .int
abbrev wsJ20 : List Cond := u_ws RJ2 TJ2 0
theorem nmJ2 : ∀ a, a < 0 → ∀ b, b < 0 → a ≠ b → (TJ2 a).2.1 ≠ (TJ2 b).2.1 := by decide +kernel
theorem tyJ2_ok : ∀ k, k < 0 → parseFieldDescriptor (TJ2 k).2.2.1 = some (tyJ2 k) := by decide +kernel
abbrev cJ2_newBytesFor_77867 : ByteArray := prog_30_method_2_code
def yJ2_newBytesFor_77867 : MethodName := ⟨RJ2, "newBytesFor", "(I)[B"⟩
abbrev cJ2_newBytesLength_0f7a4 : ByteArray := prog_30_method_3_code
def yJ2_newBytesLength_0f7a4 : MethodName := ⟨RJ2, "newBytesLength", "(I)I"⟩
abbrev cJ2_putChar_b72d1 : ByteArray := prog_30_method_4_code
def yJ2_putChar_b72d1 : MethodName := ⟨RJ2, "putChar", "([BII)V"⟩
abbrev cJ2_getChar_3b067 : ByteArray := prog_30_method_5_code
def yJ2_getChar_3b067 : MethodName := ⟨RJ2, "getChar", "([BI)C"⟩
abbrev cJ2_length_9d52b : ByteArray := prog_30_method_6_code
def yJ2_length_9d52b : MethodName := ⟨RJ2, "length", "([B)I"⟩
abbrev cJ2_coderFromArrayLen_85cad : ByteArray := prog_30_method_15_code
def yJ2_coderFromArrayLen_85cad : MethodName := ⟨RJ2, "coderFromArrayLen", "([BI)B"⟩
abbrev cJ2_compress_39247 : ByteArray := prog_30_method_17_code
def yJ2_compress_39247 : MethodName := ⟨RJ2, "compress", "([BII)[B"⟩
abbrev cJ2_compress_5af95 : ByteArray := prog_30_method_22_code
def yJ2_compress_5af95 : MethodName := ⟨RJ2, "compress", "([BI[BII)I"⟩
abbrev cJ2_getChars_46870 : ByteArray := prog_30_method_77_code
def yJ2_getChars_46870 : MethodName := ⟨RJ2, "getChars", "(III[B)I"⟩
abbrev cJ2_putCharsAt_cd4e5 : ByteArray := prog_30_method_81_code
def yJ2_putCharsAt_cd4e5 : MethodName := ⟨RJ2, "putCharsAt", "([BICCCC)I"⟩
abbrev cJ2_inflate_0e8fd : ByteArray := prog_30_method_86_code
def yJ2_inflate_0e8fd : MethodName := ⟨RJ2, "inflate", "([BI[BII)V"⟩
abbrev cJ2_getChars_ba4f3 : ByteArray := prog_30_method_89_code
def yJ2_getChars_ba4f3 : MethodName := ⟨RJ2, "getChars", "(II[B)I"⟩
abbrev cJ2_checkBoundsBeginEnd_d044e : ByteArray := prog_30_method_93_code
def yJ2_checkBoundsBeginEnd_d044e : MethodName := ⟨RJ2, "checkBoundsBeginEnd", "(II[B)V"⟩
abbrev cJ2_checkBoundsOffCount_d044e : ByteArray := prog_30_method_94_code
def yJ2_checkBoundsOffCount_d044e : MethodName := ⟨RJ2, "checkBoundsOffCount", "(II[B)V"⟩
def RJ10 : String := "java/lang/System"
def TJ10 : u_T := fun k => match k with
  | _ => ("", "", "", false)
def tyJ10 : Nat → FieldType := fun k => match k with
  | _ => .int
abbrev wsJ100 : List Cond := u_ws RJ10 TJ10 0
theorem nmJ10 : ∀ a, a < 0 → ∀ b, b < 0 → a ≠ b → (TJ10 a).2.1 ≠ (TJ10 b).2.1 := by decide +kernel
theorem tyJ10_ok : ∀ k, k < 0 → parseFieldDescriptor (TJ10 k).2.2.1 = some (tyJ10 k) := by decide +kernel
def RJ7 : String := "java/util/Arrays"
def TJ7 : u_T := fun k => match k with
  | _ => ("", "", "", false)
def tyJ7 : Nat → FieldType := fun k => match k with
  | _ => .int
abbrev wsJ70 : List Cond := u_ws RJ7 TJ7 0
theorem nmJ7 : ∀ a, a < 0 → ∀ b, b < 0 → a ≠ b → (TJ7 a).2.1 ≠ (TJ7 b).2.1 := by decide +kernel
theorem tyJ7_ok : ∀ k, k < 0 → parseFieldDescriptor (TJ7 k).2.2.1 = some (tyJ7 k) := by decide +kernel
abbrev cJ7_rangeCheck_23922 : ByteArray := prog_34_method_30_code
def yJ7_rangeCheck_23922 : MethodName := ⟨RJ7, "rangeCheck", "(III)V"⟩
abbrev cJ7_fill_d0a16 : ByteArray := prog_34_method_101_code
def yJ7_fill_d0a16 : MethodName := ⟨RJ7, "fill", "([JJ)V"⟩
abbrev cJ7_fill_53178 : ByteArray := prog_34_method_103_code
def yJ7_fill_53178 : MethodName := ⟨RJ7, "fill", "([II)V"⟩
abbrev cJ7_fill_031fb : ByteArray := prog_34_method_109_code
def yJ7_fill_031fb : MethodName := ⟨RJ7, "fill", "([BB)V"⟩
abbrev cJ7_fill_eb02e : ByteArray := prog_34_method_110_code
def yJ7_fill_eb02e : MethodName := ⟨RJ7, "fill", "([BIIB)V"⟩
abbrev cJ7_copyOf_9075b : ByteArray := prog_34_method_121_code
def yJ7_copyOf_9075b : MethodName := ⟨RJ7, "copyOf", "([BI)[B"⟩
abbrev cJ7_checkLength_df160 : ByteArray := prog_34_method_131_code
def yJ7_checkLength_df160 : MethodName := ⟨RJ7, "checkLength", "(II)V"⟩
abbrev cJ7_copyOfRange_39247 : ByteArray := prog_34_method_132_code
def yJ7_copyOfRange_39247 : MethodName := ⟨RJ7, "copyOfRange", "([BII)[B"⟩
abbrev cJ7_copyOfRangeByte_39247 : ByteArray := prog_34_method_133_code
def yJ7_copyOfRangeByte_39247 : MethodName := ⟨RJ7, "copyOfRangeByte", "([BII)[B"⟩
def RJ8 : String := "jdk/internal/util/ArraysSupport"
def TJ8 : u_T := fun k => match k with
  | _ => ("", "", "", false)
def tyJ8 : Nat → FieldType := fun k => match k with
  | _ => .int
abbrev wsJ80 : List Cond := u_ws RJ8 TJ8 0
theorem nmJ8 : ∀ a, a < 0 → ∀ b, b < 0 → a ≠ b → (TJ8 a).2.1 ≠ (TJ8 b).2.1 := by decide +kernel
theorem tyJ8_ok : ∀ k, k < 0 → parseFieldDescriptor (TJ8 k).2.2.1 = some (tyJ8 k) := by decide +kernel
abbrev cJ8_newLength_cabcc : ByteArray := prog_35_method_27_code
def yJ8_newLength_cabcc : MethodName := ⟨RJ8, "newLength", "(III)I"⟩
abbrev cJ8_hugeLength_7cf53 : ByteArray := prog_35_method_28_code
def yJ8_hugeLength_7cf53 : MethodName := ⟨RJ8, "hugeLength", "(II)I"⟩
def RJ3 : String := "jdk/internal/util/Preconditions"
def TJ3 : u_T := fun k => match k with
  | _ => ("", "", "", false)
def tyJ3 : Nat → FieldType := fun k => match k with
  | _ => .int
abbrev wsJ30 : List Cond := u_ws RJ3 TJ3 0
theorem nmJ3 : ∀ a, a < 0 → ∀ b, b < 0 → a ≠ b → (TJ3 a).2.1 ≠ (TJ3 b).2.1 := by decide +kernel
theorem tyJ3_ok : ∀ k, k < 0 → parseFieldDescriptor (TJ3 k).2.2.1 = some (tyJ3 k) := by decide +kernel
abbrev cJ3_checkFromToIndex_8c36e : ByteArray := prog_36_method_12_code
def yJ3_checkFromToIndex_8c36e : MethodName := ⟨RJ3, "checkFromToIndex", "(IIILjava/util/function/BiFunction;)I"⟩
abbrev cJ3_checkFromIndexSize_8c36e : ByteArray := prog_36_method_13_code
def yJ3_checkFromIndexSize_8c36e : MethodName := ⟨RJ3, "checkFromIndexSize", "(IIILjava/util/function/BiFunction;)I"⟩
def RL : String := "HashTreeSignerLaw"
abbrev cL_feed : ByteArray := method_3_code
def yL_feed : MethodName := ⟨RL, "feed", "(LHashTreeSigner;IIIII[J)I"⟩
abbrev cL_end : ByteArray := method_4_code
def yL_end : MethodName := ⟨RL, "end", "(LHashTreeSigner;II[J)I"⟩
abbrev cL_copy : ByteArray := method_5_code
def yL_copy : MethodName := ⟨RL, "copy", "(LHashTreeSigner;II[J)I"⟩
abbrev cL_resize : ByteArray := method_6_code
def yL_resize : MethodName := ⟨RL, "resize", "(LHashTreeSigner;II[J)I"⟩
abbrev cL_alter : ByteArray := method_7_code
def yL_alter : MethodName := ⟨RL, "alter", "(LHashTreeSigner;III[J)I"⟩
abbrev cL_length : ByteArray := method_8_code
def yL_length : MethodName := ⟨RL, "length", "(LHashTreeSigner;I[J)I"⟩
abbrev cL_word : ByteArray := method_9_code
def yL_word : MethodName := ⟨RL, "word", "(LHashTreeSigner;II[J)I"⟩
abbrev cL_same : ByteArray := method_10_code
def yL_same : MethodName := ⟨RL, "same", "(LHashTreeSigner;II[J)I"⟩
abbrev cL_slhKeys : ByteArray := method_11_code
def yL_slhKeys : MethodName := ⟨RL, "slhKeys", "(LHashTreeSigner;I[J)I"⟩
abbrev cL_slhSign : ByteArray := method_12_code
def yL_slhSign : MethodName := ⟨RL, "slhSign", "(LHashTreeSigner;II[J)I"⟩
abbrev cL_slhVerify : ByteArray := method_13_code
def yL_slhVerify : MethodName := ⟨RL, "slhVerify", "(LHashTreeSigner;II[J)I"⟩
abbrev cL_slhNode : ByteArray := method_14_code
def yL_slhNode : MethodName := ⟨RL, "slhNode", "(LHashTreeSigner;IIIII[J)I"⟩
abbrev cL_law : ByteArray := code
def yL_law : MethodName := ⟨RL, "law", "([I)Z"⟩
end
section
/-! the classes whose objects the pictures hold; the good words; which word stands where -/
abbrev vCl : List vw_C := [(RX0, TX0, 5), (RX1, TX1, 7), (RX4, TX4, 8), (RX5, TX5, 8), (RX6, TX6, 8), (RX7, TX7, 4), (RX9, TX9, 3), (RX10, TX10, 12), (RX11, TX11, 8), (RX12, TX12, 49)]
def vGW : List Cond := lw_tbl.filter goodWord
theorem vGW_ok : ∀ w ∈ vGW, ((w.onTables && w.keeps) = true ∨ ∃ ty, w = .arrayClass ty) := fun _ h => good_of_word (List.mem_filter.mp h).2
theorem vGW_at {w : Cond} (i : Nat) (h : tables_1[i]? = some w) (hg : goodWord w = true) : w ∈ vGW := List.mem_filter.mpr ⟨List.mem_append_right _ (List.mem_of_getElem? h), hg⟩
theorem vGW_sel {w : Cond} (i : Nat) (h : (k2_sels lw_privs)[i]? = some w) (hg : goodWord w = true) : w ∈ vGW := List.mem_filter.mpr ⟨List.mem_append_left _ (List.mem_of_getElem? h), hg⟩
def vNW : List Cond := [(Jvm.Cond.methodLinkNest "HashTreeSigner$ShakeFamily" (14 : Nat) ({ cls := "HashTreeSigner$Sponge", name := "<init>", desc := "()V" } : Jvm.MethodName) "HashTreeSigner"), (Jvm.Cond.declares ({ cls := "java/lang/RuntimeException", name := "<init>", desc := "()V" } : Jvm.MethodName)), (Jvm.Cond.declares ({ cls := "java/lang/RuntimeException", name := "<init>", desc := "(Ljava/lang/String;)V" } : Jvm.MethodName)), (Jvm.Cond.declares ({ cls := "java/lang/Exception", name := "<init>", desc := "()V" } : Jvm.MethodName)), (Jvm.Cond.declares ({ cls := "java/lang/Exception", name := "<init>", desc := "(Ljava/lang/String;)V" } : Jvm.MethodName)), (Jvm.Cond.declares ({ cls := "java/lang/Throwable", name := "<init>", desc := "()V" } : Jvm.MethodName)), (Jvm.Cond.declares ({ cls := "java/lang/Throwable", name := "<init>", desc := "(Ljava/lang/String;)V" } : Jvm.MethodName)), (Jvm.Cond.declares ({ cls := "HashTreeSigner$Family", name := "useSeed", desc := "()V" } : Jvm.MethodName)), (Jvm.Cond.declares ({ cls := "HashTreeSigner$Sha2", name := "compress", desc := "()V" } : Jvm.MethodName)), (Jvm.Cond.declares ({ cls := "HashTreeSigner$Family", name := "f", desc := "([BII[BI)V" } : Jvm.MethodName)), (Jvm.Cond.declares ({ cls := "HashTreeSigner$Family", name := "randomize", desc := "([BI[BI[B)V" } : Jvm.MethodName)), (Jvm.Cond.declares ({ cls := "HashTreeSigner$Family", name := "digest", desc := "([B[BI[BI)V" } : Jvm.MethodName))]
theorem vw_cpyN : Cond.native arraycopyName ∈ vGW := vGW_at 441 (by decide +kernel) (by decide +kernel)
theorem vw_cpyS : Cond.static arraycopyName ∈ vGW := vGW_at 440 (by decide +kernel) (by decide +kernel)
theorem vw_cpyI : Cond.initialized "java/lang/System" ∈ vGW := vGW_at 21 (by decide +kernel) (by decide +kernel)
end
section
/-! THE JUDGEMENT V: the machine at a pc, with locals lv and stack st, over a heap that holds the picture w (addresses to contents); all else is hidden -/
abbrev vG : Type := va_G × (Nat → ClassId)
abbrev vW : Type := Nat → Option va_E
abbrev vTys (G : vG) : List (ClassId × FieldType) := [(G.2 0, .byte), (G.2 1, .int), (G.2 2, .long), (G.2 3, .array .byte)]
/-- contents: arrays of bytes, ints, longs, references; objects -/
abbrev eB (G : vG) (n : Nat) (f : Nat → Int32) : va_E := .inl (G.2 0, n, .inl f)
abbrev eI (G : vG) (n : Nat) (f : Nat → Int32) : va_E := .inl (G.2 1, n, .inl f)
abbrev eJ (G : vG) (n : Nat) (f : Nat → Int64) : va_E := .inl (G.2 2, n, .inr (.inl f))
abbrev eR (G : vG) (n : Nat) (f : Nat → Option Nat) : va_E := .inl (G.2 3, n, .inr (.inr (.inr (.inr f))))
abbrev eO (ci : Nat) (fs : List Value) : va_E := .inr (ci, fs)
def vHas (w : vW) (ws : va_W) : Prop := ∀ (a : Nat) (e : va_E), w a = some e → ∃ k : Nat, ws[k]? = some (a, e)
def vHolds (G : vG) (B : Nat) (w : vW) (H : Heap) : Prop := ∃ ws : va_W, va_P G.1 vCl ws H ∧ va_D (fun q => B ≤ q) ws ∧ vHas w ws
/-- the picture with one content changed, or laid anew -/
abbrev vUp (w : vW) (a : Nat) (e : va_E) : vW := va_up w a (some e)
theorem vUp_self {w : vW} {a : Nat} {e : va_E} : vUp w a e a = some e := by simp [va_up]
theorem vUp_ne {w : vW} {a b : Nat} {e : va_E} (h : b ≠ a) : vUp w a e b = w b := by simp [va_up, h]
theorem vHas.set {w : vW} {ws : va_W} {A : Nat → Prop} (h : vHas w ws) (hD : va_D A ws) {k a : Nat} {e e' : va_E} (hk : ws[k]? = some (a, e)) : vHas (vUp w a e') (ws.set k (a, e')) := by
  intro b eb hb
  by_cases hab : b = a
  · subst hab
    rw [vUp_self] at hb
    cases hb
    have hlt : k < ws.length := (List.getElem?_eq_some_iff.mp hk).1
    exact ⟨k, by simp [List.getElem?_set, hlt]⟩
  · rw [vUp_ne hab] at hb
    obtain ⟨j, hj⟩ := h b eb hb
    have hkj : k ≠ j := by
      intro q
      subst q
      have := hj.symm.trans hk
      cases this
      exact hab rfl
    exact ⟨j, by rw [List.getElem?_set_ne hkj]; exact hj⟩
theorem vHas.push {w : vW} {ws : va_W} {a : Nat} {e' : va_E} (h : vHas w ws) : vHas (vUp w a e') (ws ++ [(a, e')]) := by
  intro b eb hb
  by_cases hab : b = a
  · subst hab
    rw [vUp_self] at hb
    cases hb
    exact ⟨ws.length, by simp⟩
  · rw [vUp_ne hab] at hb
    obtain ⟨j, hj⟩ := h b eb hb
    have hlt : j < ws.length := (List.getElem?_eq_some_iff.mp hj).1
    exact ⟨j, by rw [List.getElem?_append_left hlt]; exact hj⟩
theorem vHas.sub {w w' : vW} {ws : va_W} (h : vHas w ws) (hw : ∀ a e, w' a = some e → w a = some e) : vHas w' ws := fun a e q => h a e (hw a e q)
theorem vHolds.sub {G : vG} {B : Nat} {w w' : vW} {H : Heap} (h : vHolds G B w H) (hw : ∀ a e, w' a = some e → w a = some e) : vHolds G B w' H := by
  obtain ⟨ws, h1, h2, h3⟩ := h
  exact ⟨ws, h1, h2, h3.sub hw⟩
theorem vHolds.base {G : vG} {B : Nat} {w : vW} {H : Heap} (h : vHolds G B w H) {a : Nat} {e : va_E} (ha : w a = some e) : B ≤ a ∧ a < H.size := by
  obtain ⟨ws, h1, h2, h3⟩ := h
  obtain ⟨k, hk⟩ := h3 a e ha
  exact ⟨h2.2 k _ hk, (h1 k _ hk).lt⟩
/-- the statics that nobody writes -/
def vStat (_B : Nat) (_U : State) (_H : Heap) : Prop := True
theorem vStat.moved {B : Nat} {u U : State} {H : Heap} (_hvm : u.vm.Alike U.vm) (_h : vStat B u H) : vStat B U H := trivial
theorem vStat.kept {B : Nat} {U : State} {H H1 : Heap} (_h : vStat B U H) (_hq : ∀ a : Nat, a < H.size → ¬ B ≤ a → H1[a]? = H[a]?) : vStat B U H1 := trivial
def vNkB (w : Cond) : Bool := match w with
  | .fieldLinkNest .. => true
  | .methodLinkNest .. => true
  | .declares .. => true
  | _ => false
theorem vNw_warm {w : Cond} (hk : vNkB w = true) {s U : State} (hW : s.WarmedH U.vm) (h : va_Nw w s) : va_Nw w U := by
  cases w <;> first | exact va_Nw.warmF hW h | exact va_Nw.warmM hW h | exact va_Nw.warmD hW h | (simp [vNkB] at hk)
theorem vNW_kind : vNW.all vNkB = true := by decide +kernel
def vEnv (G : vG) (B : Nat) (U : State) : Prop := va_K G.1 vCl (vTys G) U ∧ B ≤ U.heap.size ∧ (∀ w ∈ vNW, va_Nw w U) ∧ vStat B U U.heap
theorem vNk_onTables {w : Cond} (hk : vNkB w = true) : w.onTables = true := by
  cases w <;> first | rfl | (simp [vNkB] at hk)
theorem vEnv.blind {G : vG} {B : Nat} {U : State} {g : JFrame} {mk : MethodId} {a : Array Value} (h : vEnv G B U) : vEnv G B (U.calling g mk a) :=
  ⟨va_K.moved (u := U) (U := U.calling g mk a) (Vm.Alike.refl U.vm) h.1, h.2.1, fun w hw => va_Nw.same (u := U) (U := U.calling g mk a) (vNk_onTables (List.all_eq_true.mp vNW_kind w hw)) rfl (h.2.2.1 w hw), vStat.moved (u := U) (U := U.calling g mk a) (Vm.Alike.refl U.vm) h.2.2.2⟩
theorem vEnv.carry {G : vG} {B : Nat} {s U : State} {H : Heap} {locs : List Loc} (h : vEnv G B s) (hS : va_S (fun q => B ≤ q) s.heap H locs) (hU : U.heap = H) (hW : s.WarmedH U.vm) : vEnv G B U := by
  subst hU
  exact ⟨va_K.moved hW.alike h.1, Nat.le_trans h.2.1 hS.1, fun w hw => vNw_warm (List.all_eq_true.mp vNW_kind w hw) hW (h.2.2.1 w hw), vStat.moved hW.alike (vStat.kept h.2.2.2 (fun a h1 h2 => hS.2.1 a h1 h2))⟩
def V (G : vG) (B : Nat) (p : Program) (l : Launch) (e : Env) (R : Room) (s : State) (m : MethodId) (args : Array Value) (below : List Frame) (meth : Method) (c : Code) (nL cells slots : Nat) (Q : State → Prop) (w : vW) (pc : Nat) (lv : List (Nat × Value)) (st : List Value) : Prop :=
  ∀ (H : Heap) (locs : List Loc) (ls : Array Slot), vHolds G B w H → va_S (fun q => B ≤ q) s.heap H locs → lv_has ls nL lv → W p l e R s m args below meth c H locs cells slots Q (F0 m pc ls st)
/-- an instruction, its length, and where the next one stands -/
def vD (cc : ByteArray) (pc : Nat) (i : Instr) (n pc' : Nat) : Prop := decode cc pc = .ok (i, n) ∧ pc' = pc + n
/-- what a walk of a method has at hand -/
def vC (G : vG) (B : Nat) (p : Program) (m : MethodId) (meth : Method) (c : Code) (cc : ByteArray) (nL : Nat) (ret : Option FieldType) (s : State) (args : Array Value) (own : String) : Prop :=
  CallFix p m c cc nL s args vGW own ∧ vEnv G B s ∧ meth.sig.returnType = ret ∧ meth.locks = false
def vRm (d mc ms : Nat) : Room := { frames := d, cells := mc, slots := ms, locals := 100 * d }
def vQ (G : vG) (B : Nat) (post : Option Value → vW → Prop) : Array Value → State → Outcome → State → Prop := fun _ st oc t => (∃ (r : Option Value) (w' : vW), oc = .returned r ∧ post r w' ∧ vHolds G B w' t.heap) ∧ va_F (fun q => B ≤ q) st t
/-- A CONTRACT: over a heap that holds w, called with av, y returns r with a heap that holds w', and 'post r w'' -/
def vOk (G : vG) (B : Nat) (l : Launch) (y : MethodName) (bytes : ByteArray) (maxL : Nat) (ret : Option FieldType) (d mc ms : Nat) (av : List Value) (w : vW) (post : Option Value → vW → Prop) : Prop :=
  Met l y (Cond.code y bytes maxL ret :: vGW) (vRm d mc ms) (va_Pc av (fun U => vEnv G B U ∧ vHolds G B w U.heap)) (vQ G B post) mc ms (fun q => B ≤ q)
/-- a field by its pool number: class number and place; for reads, for writes -/
def vFld (own : String) (index ci k : Nat) : Prop := ∃ (C : String) (T : u_T) (N : Nat) (ref host : String), vCl[ci]? = some (C, T, N) ∧ k < N ∧ (∀ w ∈ u_ws C T N, w ∈ vGW) ∧ (Cond.fieldLink own index ref (T k).2.1 (T k).2.2.1 ∈ vGW ∨ Cond.fieldLinkNest own index ref (T k).2.1 (T k).2.2.1 host ∈ vNW) ∧ (ref = (T k).1 ∨ Cond.sameField ref (T k).1 (T k).2.1 (T k).2.2.1 ∈ vGW)
def vFldP (own : String) (index ci k : Nat) (ty : FieldType) : Prop := ∃ (C : String) (T : u_T) (N : Nat) (ref host : String) (ty0 : Nat → FieldType), vCl[ci]? = some (C, T, N) ∧ k < N ∧ (∀ w ∈ u_ws C T N, w ∈ vGW) ∧ (Cond.fieldLink own index ref (T k).2.1 (T k).2.2.1 ∈ vGW ∨ Cond.fieldLinkNest own index ref (T k).2.1 (T k).2.2.1 host ∈ vNW) ∧ (ref = (T k).1 ∨ Cond.sameField ref (T k).1 (T k).2.1 (T k).2.2.1 ∈ vGW) ∧ (∀ j, j < N → parseFieldDescriptor (T j).2.2.1 = some (ty0 j)) ∧ (∀ a, a < N → ∀ b, b < N → a ≠ b → (T a).2.1 ≠ (T b).2.1) ∧ (T k).2.2.2 = false ∧ parseFieldDescriptor (T k).2.2.1 = some ty
def vFldF (own : String) (index ci k : Nat) (ty : FieldType) : Prop := ∃ (C : String) (T : u_T) (N : Nat) (ref host : String) (ty0 : Nat → FieldType), vCl[ci]? = some (C, T, N) ∧ k < N ∧ (∀ w ∈ u_ws C T N, w ∈ vGW) ∧ (Cond.fieldLink own index ref (T k).2.1 (T k).2.2.1 ∈ vGW ∨ Cond.fieldLinkNest own index ref (T k).2.1 (T k).2.2.1 host ∈ vNW) ∧ (ref = (T k).1 ∨ Cond.sameField ref (T k).1 (T k).2.1 (T k).2.2.1 ∈ vGW) ∧ (∀ j, j < N → parseFieldDescriptor (T j).2.2.1 = some (ty0 j)) ∧ (∀ a, a < N → ∀ b, b < N → a ≠ b → (T a).2.1 ≠ (T b).2.1) ∧ (T k).2.2.2 = true ∧ (T k).1 = own ∧ parseFieldDescriptor (T k).2.2.1 = some ty
abbrev vNoH (C : String) : Prop := C ≠ "java/lang/invoke/MethodHandle" ∧ C ≠ "java/lang/invoke/VarHandle"
abbrev vPar (desc : String) (n : Nat) : Prop := (parseMethodDescriptor desc).map (fun d => d.parameters.length) = some n
/-- a method by its pool number: static; on a receiver of its own class; a constructor; answered by another -/
def vLS (own : String) (index : Nat) (y : MethodName) (bytes : ByteArray) (maxL : Nat) (rt : Option FieldType) (n : Nat) : Prop := (Cond.methodLink own index y ∈ vGW ∨ ∃ host, Cond.methodLinkNest own index y host ∈ vNW) ∧ Cond.static y ∈ vGW ∧ Cond.initialized y.cls ∈ vGW ∧ Cond.code y bytes maxL rt ∈ vGW ∧ vNoH y.cls ∧ vPar y.desc n
def vLV (own : String) (index : Nat) (y : MethodName) (bytes : ByteArray) (maxL : Nat) (rt : Option FieldType) (n ci : Nat) : Prop := (∃ q : vw_C, vCl[ci]? = some q ∧ q.1 = y.cls) ∧ (Cond.methodLink own index y ∈ vGW ∨ ∃ host, Cond.methodLinkNest own index y host ∈ vNW) ∧ Cond.instanceMethod y ∈ vGW ∧ Cond.selects y.cls y y ∈ vGW ∧ Cond.initialized y.cls ∈ vGW ∧ Cond.code y bytes maxL rt ∈ vGW ∧ vNoH y.cls ∧ vPar y.desc n
def vLI (own : String) (index : Nat) (y : MethodName) (bytes : ByteArray) (maxL n : Nat) : Prop := (Cond.methodLink own index y ∈ vGW ∨ ∃ host, Cond.methodLinkNest own index y host ∈ vNW) ∧ Cond.instanceMethod y ∈ vGW ∧ Cond.initialized y.cls ∈ vGW ∧ Cond.code y bytes maxL none ∈ vGW ∧ y.name = "<init>" ∧ vNoH y.cls ∧ vPar y.desc n
def vLU (own : String) (index : Nat) (x y : MethodName) (bytes : ByteArray) (maxL : Nat) (rt : Option FieldType) (n ci : Nat) : Prop := ∃ (q : vw_C) (owner : String), vCl[ci]? = some q ∧ Cond.methodLink own index x ∈ vGW ∧ Cond.sameMethod x.cls owner x.name x.desc ∈ vGW ∧ (Cond.declares ⟨owner, x.name, x.desc⟩ ∈ vNW ∨ ∃ (b0 : ByteArray) (m0 : Nat) (r0 : Option FieldType), Cond.instanceMethod ⟨owner, x.name, x.desc⟩ ∈ vGW ∧ Cond.code ⟨owner, x.name, x.desc⟩ b0 m0 r0 ∈ vGW) ∧ Cond.selects q.1 x y ∈ vGW ∧ Cond.instanceMethod y ∈ vGW ∧ Cond.initialized y.cls ∈ vGW ∧ Cond.code y bytes maxL rt ∈ vGW ∧ vNoH owner ∧ vPar x.desc n
theorem vNe {w : vW} {a b : Nat} {e1 e2 : va_E} (h1 : w a = some e1) (h2 : w b = some e2) (h : e1 ≠ e2) : a ≠ b := fun q => h (by subst q; exact Option.some.inj (h1.symm.trans h2))
end
section
section VRows
variable {G : vG} {B : Nat} {p : Program} {l : Launch} {e : Env} {R : Room} {s : State} {m : MethodId} {args : Array Value} {below : List Frame} {meth : Method} {c : Code} {nL cells slots : Nat} {Q : State → Prop} {w : vW} {cc : ByteArray} {ret : Option FieldType} {own : String} {pc pc' : Nat} {lv : List (Nat × Value)} {st : List Value}
theorem v_iconst (C : vC G B p m meth c cc nL ret s args own) {n : Int} {v : Int32} (hd : vD cc pc (.iconst n) 1 pc') (hv : Int32.ofInt n = v) (k : V G B p l e R s m args below meth c nL cells slots Q w pc' lv (.int v :: st)) : V G B p l e R s m args below meth c nL cells slots Q w pc lv (st) := by
  intro H locs ls h1 h2 h3
  have k := k H locs ls h1 h2 h3
  rw [hd.2] at k
  exact lv_iconst C.1.1 C.1.2.1 hd.1 hv k
theorem v_bipush (C : vC G B p m meth c cc nL ret s args own) {n : Int} {v : Int32} (hd : vD cc pc (.bipush n) 2 pc') (hv : (Int8.ofInt n).toInt32 = v) (k : V G B p l e R s m args below meth c nL cells slots Q w pc' lv (.int v :: st)) : V G B p l e R s m args below meth c nL cells slots Q w pc lv (st) := by
  intro H locs ls h1 h2 h3
  have k := k H locs ls h1 h2 h3
  rw [hd.2] at k
  exact lv_bipush C.1.1 C.1.2.1 hd.1 hv k
theorem v_sipush (C : vC G B p m meth c cc nL ret s args own) {n : Int} {v : Int32} (hd : vD cc pc (.sipush n) 3 pc') (hv : (Int16.ofInt n).toInt32 = v) (k : V G B p l e R s m args below meth c nL cells slots Q w pc' lv (.int v :: st)) : V G B p l e R s m args below meth c nL cells slots Q w pc lv (st) := by
  intro H locs ls h1 h2 h3
  have k := k H locs ls h1 h2 h3
  rw [hd.2] at k
  exact lv_sipush C.1.1 C.1.2.1 hd.1 hv k
theorem v_lconst (C : vC G B p m meth c cc nL ret s args own) {n : Fin 2} {v : Int64} (hd : vD cc pc (.lconst n) 1 pc') (hv : Int64.ofNat (n : Nat) = v) (k : V G B p l e R s m args below meth c nL cells slots Q w pc' lv (.long v :: st)) : V G B p l e R s m args below meth c nL cells slots Q w pc lv (st) := by
  intro H locs ls h1 h2 h3
  have k := k H locs ls h1 h2 h3
  rw [hd.2] at k
  exact lv_lconst C.1.1 C.1.2.1 hd.1 hv k
theorem v_ldc (C : vC G B p m meth c cc nL ret s args own) {index : Nat} {v : Int32} (hd : vD cc pc (.ldc index) 2 pc') (hw : Cond.constant own index v ∈ vGW) (k : V G B p l e R s m args below meth c nL cells slots Q w pc' lv (.int v :: st)) : V G B p l e R s m args below meth c nL cells slots Q w pc lv (st) := by
  intro H locs ls h1 h2 h3
  have k := k H locs ls h1 h2 h3
  rw [hd.2] at k
  exact lv_ldc C.1.1 C.1.2.1 C.1.2.2.2.1 (C.1.2.2.2.2 _ hw) hd.1 k
theorem v_ldcw (C : vC G B p m meth c cc nL ret s args own) {index : Nat} {v : Int32} (hd : vD cc pc (.ldc_w index) 3 pc') (hw : Cond.constant own index v ∈ vGW) (k : V G B p l e R s m args below meth c nL cells slots Q w pc' lv (.int v :: st)) : V G B p l e R s m args below meth c nL cells slots Q w pc lv (st) := by
  intro H locs ls h1 h2 h3
  have k := k H locs ls h1 h2 h3
  rw [hd.2] at k
  exact lv_ldcw C.1.1 C.1.2.1 C.1.2.2.2.1 (C.1.2.2.2.2 _ hw) hd.1 k
theorem v_ldc2 (C : vC G B p m meth c cc nL ret s args own) {index : Nat} {v : Int64} (hd : vD cc pc (.ldc2_w index) 3 pc') (hw : Cond.constantLong own index v ∈ vGW) (k : V G B p l e R s m args below meth c nL cells slots Q w pc' lv (.long v :: st)) : V G B p l e R s m args below meth c nL cells slots Q w pc lv (st) := by
  intro H locs ls h1 h2 h3
  have k := k H locs ls h1 h2 h3
  rw [hd.2] at k
  exact lv_ldc2 C.1.1 C.1.2.1 C.1.2.2.2.1 (C.1.2.2.2.2 _ hw) hd.1 k
theorem v_iload_n (C : vC G B p m meth c cc nL ret s args own) {k0 : Fin 4} {i : Nat} {x : Int32} (hd : vD cc pc (.iload_n k0) 1 pc') (hi : (k0 : Nat) = i) (j : Nat) (hj : lv[j]? = some (i, .int x)) (k : V G B p l e R s m args below meth c nL cells slots Q w pc' lv (.int x :: st)) : V G B p l e R s m args below meth c nL cells slots Q w pc lv (st) := by
  intro H locs ls h1 h2 h3
  have k := k H locs ls h1 h2 h3
  rw [hd.2] at k
  exact lv_iload_n C.1.1 C.1.2.1 hd.1 hi (lv_at h3 j hj) k
theorem v_iload (C : vC G B p m meth c cc nL ret s args own) {i : Nat} {x : Int32} (hd : vD cc pc (.iload i) 2 pc') (j : Nat) (hj : lv[j]? = some (i, .int x)) (k : V G B p l e R s m args below meth c nL cells slots Q w pc' lv (.int x :: st)) : V G B p l e R s m args below meth c nL cells slots Q w pc lv (st) := by
  intro H locs ls h1 h2 h3
  have k := k H locs ls h1 h2 h3
  rw [hd.2] at k
  exact lv_iload C.1.1 C.1.2.1 hd.1 (lv_at h3 j hj) k
theorem v_lload_n (C : vC G B p m meth c cc nL ret s args own) {k0 : Fin 4} {i : Nat} {x : Int64} (hd : vD cc pc (.lload_n k0) 1 pc') (hi : (k0 : Nat) = i) (j : Nat) (hj : lv[j]? = some (i, .long x)) (k : V G B p l e R s m args below meth c nL cells slots Q w pc' lv (.long x :: st)) : V G B p l e R s m args below meth c nL cells slots Q w pc lv (st) := by
  intro H locs ls h1 h2 h3
  have k := k H locs ls h1 h2 h3
  rw [hd.2] at k
  exact lv_lload_n C.1.1 C.1.2.1 hd.1 hi (lv_at h3 j hj) k
theorem v_lload (C : vC G B p m meth c cc nL ret s args own) {i : Nat} {x : Int64} (hd : vD cc pc (.lload i) 2 pc') (j : Nat) (hj : lv[j]? = some (i, .long x)) (k : V G B p l e R s m args below meth c nL cells slots Q w pc' lv (.long x :: st)) : V G B p l e R s m args below meth c nL cells slots Q w pc lv (st) := by
  intro H locs ls h1 h2 h3
  have k := k H locs ls h1 h2 h3
  rw [hd.2] at k
  exact lv_lload C.1.1 C.1.2.1 hd.1 (lv_at h3 j hj) k
theorem v_aload_n (C : vC G B p m meth c cc nL ret s args own) {k0 : Fin 4} {i : Nat} {x : Nat} (hd : vD cc pc (.aload_n k0) 1 pc') (hi : (k0 : Nat) = i) (j : Nat) (hj : lv[j]? = some (i, .ref x)) (k : V G B p l e R s m args below meth c nL cells slots Q w pc' lv (.ref x :: st)) : V G B p l e R s m args below meth c nL cells slots Q w pc lv (st) := by
  intro H locs ls h1 h2 h3
  have k := k H locs ls h1 h2 h3
  rw [hd.2] at k
  exact lv_aload_n C.1.1 C.1.2.1 hd.1 hi (lv_at h3 j hj) k
theorem v_aload (C : vC G B p m meth c cc nL ret s args own) {i : Nat} {x : Nat} (hd : vD cc pc (.aload i) 2 pc') (j : Nat) (hj : lv[j]? = some (i, .ref x)) (k : V G B p l e R s m args below meth c nL cells slots Q w pc' lv (.ref x :: st)) : V G B p l e R s m args below meth c nL cells slots Q w pc lv (st) := by
  intro H locs ls h1 h2 h3
  have k := k H locs ls h1 h2 h3
  rw [hd.2] at k
  exact lv_aload C.1.1 C.1.2.1 hd.1 (lv_at h3 j hj) k
theorem v_istore_n (C : vC G B p m meth c cc nL ret s args own) {k0 : Fin 4} {i : Nat} {x : Int32} {lv' : List (Nat × Value)} (hd : vD cc pc (.istore_n k0) 1 pc') (hi : (k0 : Nat) = i) (hn : i < nL) (ks : List Nat) (hl : lv_pick ((i, Value.int x) :: lv.filter (fun q => !(q.1 == i) && !(q.1 + 1 == i && q.2.category == 2))) ks = lv') (k : V G B p l e R s m args below meth c nL cells slots Q w pc' lv' st) : V G B p l e R s m args below meth c nL cells slots Q w pc lv (.int x :: st) := by
  intro H locs ls h1 h2 h3
  rw [hd.2] at k
  exact lv_istore_n C.1.1 C.1.2.1 hd.1 hi h3 hn rfl (fun ls' h4 => k H locs ls' h1 h2 (lv_sub h4 ks hl))
theorem v_istore (C : vC G B p m meth c cc nL ret s args own) {i : Nat} {x : Int32} {lv' : List (Nat × Value)} (hd : vD cc pc (.istore i) 2 pc') (hn : i < nL) (ks : List Nat) (hl : lv_pick ((i, Value.int x) :: lv.filter (fun q => !(q.1 == i) && !(q.1 + 1 == i && q.2.category == 2))) ks = lv') (k : V G B p l e R s m args below meth c nL cells slots Q w pc' lv' st) : V G B p l e R s m args below meth c nL cells slots Q w pc lv (.int x :: st) := by
  intro H locs ls h1 h2 h3
  rw [hd.2] at k
  exact lv_istore C.1.1 C.1.2.1 hd.1 h3 hn rfl (fun ls' h4 => k H locs ls' h1 h2 (lv_sub h4 ks hl))
theorem v_lstore_n (C : vC G B p m meth c cc nL ret s args own) {k0 : Fin 4} {i : Nat} {x : Int64} {lv' : List (Nat × Value)} (hd : vD cc pc (.lstore_n k0) 1 pc') (hi : (k0 : Nat) = i) (hn : i + 1 < nL) (ks : List Nat) (hl : lv_pick ((i, Value.long x) :: lv.filter (fun q => !(q.1 == i) && (!(q.1 == i + 1) && !(q.1 + 1 == i && q.2.category == 2)))) ks = lv') (k : V G B p l e R s m args below meth c nL cells slots Q w pc' lv' st) : V G B p l e R s m args below meth c nL cells slots Q w pc lv (.long x :: st) := by
  intro H locs ls h1 h2 h3
  rw [hd.2] at k
  exact lv_lstore_n C.1.1 C.1.2.1 hd.1 hi h3 hn rfl (fun ls' h4 => k H locs ls' h1 h2 (lv_sub h4 ks hl))
theorem v_lstore (C : vC G B p m meth c cc nL ret s args own) {i : Nat} {x : Int64} {lv' : List (Nat × Value)} (hd : vD cc pc (.lstore i) 2 pc') (hn : i + 1 < nL) (ks : List Nat) (hl : lv_pick ((i, Value.long x) :: lv.filter (fun q => !(q.1 == i) && (!(q.1 == i + 1) && !(q.1 + 1 == i && q.2.category == 2)))) ks = lv') (k : V G B p l e R s m args below meth c nL cells slots Q w pc' lv' st) : V G B p l e R s m args below meth c nL cells slots Q w pc lv (.long x :: st) := by
  intro H locs ls h1 h2 h3
  rw [hd.2] at k
  exact lv_lstore C.1.1 C.1.2.1 hd.1 h3 hn rfl (fun ls' h4 => k H locs ls' h1 h2 (lv_sub h4 ks hl))
theorem v_astore_n (C : vC G B p m meth c cc nL ret s args own) {k0 : Fin 4} {i : Nat} {x : Nat} {lv' : List (Nat × Value)} (hd : vD cc pc (.astore_n k0) 1 pc') (hi : (k0 : Nat) = i) (hn : i < nL) (ks : List Nat) (hl : lv_pick ((i, Value.ref x) :: lv.filter (fun q => !(q.1 == i) && !(q.1 + 1 == i && q.2.category == 2))) ks = lv') (k : V G B p l e R s m args below meth c nL cells slots Q w pc' lv' st) : V G B p l e R s m args below meth c nL cells slots Q w pc lv (.ref x :: st) := by
  intro H locs ls h1 h2 h3
  rw [hd.2] at k
  exact lv_astore_n C.1.1 C.1.2.1 hd.1 hi h3 hn rfl (fun ls' h4 => k H locs ls' h1 h2 (lv_sub h4 ks hl))
theorem v_astore (C : vC G B p m meth c cc nL ret s args own) {i : Nat} {x : Nat} {lv' : List (Nat × Value)} (hd : vD cc pc (.astore i) 2 pc') (hn : i < nL) (ks : List Nat) (hl : lv_pick ((i, Value.ref x) :: lv.filter (fun q => !(q.1 == i) && !(q.1 + 1 == i && q.2.category == 2))) ks = lv') (k : V G B p l e R s m args below meth c nL cells slots Q w pc' lv' st) : V G B p l e R s m args below meth c nL cells slots Q w pc lv (.ref x :: st) := by
  intro H locs ls h1 h2 h3
  rw [hd.2] at k
  exact lv_astore C.1.1 C.1.2.1 hd.1 h3 hn rfl (fun ls' h4 => k H locs ls' h1 h2 (lv_sub h4 ks hl))
theorem v_iinc (C : vC G B p m meth c cc nL ret s args own) {i : Nat} {n : Int} {x v : Int32} {lv' : List (Nat × Value)} (hd : vD cc pc (.iinc i n) 3 pc') (j : Nat) (hj : lv[j]? = some (i, .int x)) (hv : x + Int32.ofInt n = v) (hn : i < nL) (ks : List Nat) (hl : lv_pick ((i, Value.int v) :: lv.filter (fun q => !(q.1 == i) && !(q.1 + 1 == i && q.2.category == 2))) ks = lv') (k : V G B p l e R s m args below meth c nL cells slots Q w pc' lv' st) : V G B p l e R s m args below meth c nL cells slots Q w pc lv st := by
  intro H locs ls h1 h2 h3
  rw [hd.2] at k
  exact lv_iinc C.1.1 C.1.2.1 hd.1 h3 hj hv hn rfl (fun ls' h4 => k H locs ls' h1 h2 (lv_sub h4 ks hl))
theorem v_iadd (C : vC G B p m meth c cc nL ret s args own) {x y : Int32} (hd : vD cc pc .iadd 1 pc')  (k : V G B p l e R s m args below meth c nL cells slots Q w pc' lv (.int (x + y) :: st)) : V G B p l e R s m args below meth c nL cells slots Q w pc lv (.int y :: .int x :: st) := by
  intro H locs ls h1 h2 h3
  have k := k H locs ls h1 h2 h3
  rw [hd.2] at k
  exact lv_iadd C.1.1 C.1.2.1 hd.1 k
theorem v_isub (C : vC G B p m meth c cc nL ret s args own) {x y : Int32} (hd : vD cc pc .isub 1 pc')  (k : V G B p l e R s m args below meth c nL cells slots Q w pc' lv (.int (x - y) :: st)) : V G B p l e R s m args below meth c nL cells slots Q w pc lv (.int y :: .int x :: st) := by
  intro H locs ls h1 h2 h3
  have k := k H locs ls h1 h2 h3
  rw [hd.2] at k
  exact lv_isub C.1.1 C.1.2.1 hd.1 k
theorem v_imul (C : vC G B p m meth c cc nL ret s args own) {x y : Int32} (hd : vD cc pc .imul 1 pc')  (k : V G B p l e R s m args below meth c nL cells slots Q w pc' lv (.int (x * y) :: st)) : V G B p l e R s m args below meth c nL cells slots Q w pc lv (.int y :: .int x :: st) := by
  intro H locs ls h1 h2 h3
  have k := k H locs ls h1 h2 h3
  rw [hd.2] at k
  exact lv_imul C.1.1 C.1.2.1 hd.1 k
theorem v_iand (C : vC G B p m meth c cc nL ret s args own) {x y : Int32} (hd : vD cc pc .iand 1 pc')  (k : V G B p l e R s m args below meth c nL cells slots Q w pc' lv (.int (x &&& y) :: st)) : V G B p l e R s m args below meth c nL cells slots Q w pc lv (.int y :: .int x :: st) := by
  intro H locs ls h1 h2 h3
  have k := k H locs ls h1 h2 h3
  rw [hd.2] at k
  exact lv_iand C.1.1 C.1.2.1 hd.1 k
theorem v_ior (C : vC G B p m meth c cc nL ret s args own) {x y : Int32} (hd : vD cc pc .ior 1 pc')  (k : V G B p l e R s m args below meth c nL cells slots Q w pc' lv (.int (x ||| y) :: st)) : V G B p l e R s m args below meth c nL cells slots Q w pc lv (.int y :: .int x :: st) := by
  intro H locs ls h1 h2 h3
  have k := k H locs ls h1 h2 h3
  rw [hd.2] at k
  exact lv_ior C.1.1 C.1.2.1 hd.1 k
theorem v_ixor (C : vC G B p m meth c cc nL ret s args own) {x y : Int32} (hd : vD cc pc .ixor 1 pc')  (k : V G B p l e R s m args below meth c nL cells slots Q w pc' lv (.int (x ^^^ y) :: st)) : V G B p l e R s m args below meth c nL cells slots Q w pc lv (.int y :: .int x :: st) := by
  intro H locs ls h1 h2 h3
  have k := k H locs ls h1 h2 h3
  rw [hd.2] at k
  exact lv_ixor C.1.1 C.1.2.1 hd.1 k
theorem v_ishl (C : vC G B p m meth c cc nL ret s args own) {x y : Int32} (hd : vD cc pc .ishl 1 pc')  (k : V G B p l e R s m args below meth c nL cells slots Q w pc' lv (.int (x <<< (y &&& 31)) :: st)) : V G B p l e R s m args below meth c nL cells slots Q w pc lv (.int y :: .int x :: st) := by
  intro H locs ls h1 h2 h3
  have k := k H locs ls h1 h2 h3
  rw [hd.2] at k
  exact lv_ishl C.1.1 C.1.2.1 hd.1 k
theorem v_ishr (C : vC G B p m meth c cc nL ret s args own) {x y : Int32} (hd : vD cc pc .ishr 1 pc')  (k : V G B p l e R s m args below meth c nL cells slots Q w pc' lv (.int (x >>> (y &&& 31)) :: st)) : V G B p l e R s m args below meth c nL cells slots Q w pc lv (.int y :: .int x :: st) := by
  intro H locs ls h1 h2 h3
  have k := k H locs ls h1 h2 h3
  rw [hd.2] at k
  exact lv_ishr C.1.1 C.1.2.1 hd.1 k
theorem v_iushr (C : vC G B p m meth c cc nL ret s args own) {x y : Int32} (hd : vD cc pc .iushr 1 pc')  (k : V G B p l e R s m args below meth c nL cells slots Q w pc' lv (.int ((x.toUInt32 >>> (y.toUInt32 &&& Int32.toUInt32 31)).toInt32) :: st)) : V G B p l e R s m args below meth c nL cells slots Q w pc lv (.int y :: .int x :: st) := by
  intro H locs ls h1 h2 h3
  have k := k H locs ls h1 h2 h3
  rw [hd.2] at k
  exact lv_iushr C.1.1 C.1.2.1 hd.1 rfl k
theorem v_ladd (C : vC G B p m meth c cc nL ret s args own) {x y : Int64} (hd : vD cc pc .ladd 1 pc')  (k : V G B p l e R s m args below meth c nL cells slots Q w pc' lv (.long (x + y) :: st)) : V G B p l e R s m args below meth c nL cells slots Q w pc lv (.long y :: .long x :: st) := by
  intro H locs ls h1 h2 h3
  have k := k H locs ls h1 h2 h3
  rw [hd.2] at k
  exact lv_ladd C.1.1 C.1.2.1 hd.1 k
theorem v_lsub (C : vC G B p m meth c cc nL ret s args own) {x y : Int64} (hd : vD cc pc .lsub 1 pc')  (k : V G B p l e R s m args below meth c nL cells slots Q w pc' lv (.long (x - y) :: st)) : V G B p l e R s m args below meth c nL cells slots Q w pc lv (.long y :: .long x :: st) := by
  intro H locs ls h1 h2 h3
  have k := k H locs ls h1 h2 h3
  rw [hd.2] at k
  exact lv_lsub C.1.1 C.1.2.1 hd.1 k
theorem v_lmul (C : vC G B p m meth c cc nL ret s args own) {x y : Int64} (hd : vD cc pc .lmul 1 pc')  (k : V G B p l e R s m args below meth c nL cells slots Q w pc' lv (.long (x * y) :: st)) : V G B p l e R s m args below meth c nL cells slots Q w pc lv (.long y :: .long x :: st) := by
  intro H locs ls h1 h2 h3
  have k := k H locs ls h1 h2 h3
  rw [hd.2] at k
  exact lv_lmul C.1.1 C.1.2.1 hd.1 k
theorem v_land (C : vC G B p m meth c cc nL ret s args own) {x y : Int64} (hd : vD cc pc .land 1 pc')  (k : V G B p l e R s m args below meth c nL cells slots Q w pc' lv (.long (x &&& y) :: st)) : V G B p l e R s m args below meth c nL cells slots Q w pc lv (.long y :: .long x :: st) := by
  intro H locs ls h1 h2 h3
  have k := k H locs ls h1 h2 h3
  rw [hd.2] at k
  exact lv_land C.1.1 C.1.2.1 hd.1 k
theorem v_lor (C : vC G B p m meth c cc nL ret s args own) {x y : Int64} (hd : vD cc pc .lor 1 pc')  (k : V G B p l e R s m args below meth c nL cells slots Q w pc' lv (.long (x ||| y) :: st)) : V G B p l e R s m args below meth c nL cells slots Q w pc lv (.long y :: .long x :: st) := by
  intro H locs ls h1 h2 h3
  have k := k H locs ls h1 h2 h3
  rw [hd.2] at k
  exact lv_lor C.1.1 C.1.2.1 hd.1 k
theorem v_lxor (C : vC G B p m meth c cc nL ret s args own) {x y : Int64} (hd : vD cc pc .lxor 1 pc')  (k : V G B p l e R s m args below meth c nL cells slots Q w pc' lv (.long (x ^^^ y) :: st)) : V G B p l e R s m args below meth c nL cells slots Q w pc lv (.long y :: .long x :: st) := by
  intro H locs ls h1 h2 h3
  have k := k H locs ls h1 h2 h3
  rw [hd.2] at k
  exact lv_lxor C.1.1 C.1.2.1 hd.1 k
theorem v_lushr (C : vC G B p m meth c cc nL ret s args own) {x : Int64} {y : Int32} (hd : vD cc pc .lushr 1 pc')  (k : V G B p l e R s m args below meth c nL cells slots Q w pc' lv (.long ((x.toUInt64 >>> (y.toInt64.toUInt64 &&& Int64.toUInt64 63)).toInt64) :: st)) : V G B p l e R s m args below meth c nL cells slots Q w pc lv (.int y :: .long x :: st) := by
  intro H locs ls h1 h2 h3
  have k := k H locs ls h1 h2 h3
  rw [hd.2] at k
  exact lv_lushr C.1.1 C.1.2.1 hd.1 rfl k
theorem v_lshl (C : vC G B p m meth c cc nL ret s args own) {x : Int64} {y : Int32} (hd : vD cc pc .lshl 1 pc')  (k : V G B p l e R s m args below meth c nL cells slots Q w pc' lv (.long (x <<< (y.toInt64 &&& 63)) :: st)) : V G B p l e R s m args below meth c nL cells slots Q w pc lv (.int y :: .long x :: st) := by
  intro H locs ls h1 h2 h3
  have k := k H locs ls h1 h2 h3
  rw [hd.2] at k
  exact lv_lshl C.1.1 C.1.2.1 hd.1 rfl k
theorem v_lshr (C : vC G B p m meth c cc nL ret s args own) {x : Int64} {y : Int32} (hd : vD cc pc .lshr 1 pc')  (k : V G B p l e R s m args below meth c nL cells slots Q w pc' lv (.long (x >>> (y.toInt64 &&& 63)) :: st)) : V G B p l e R s m args below meth c nL cells slots Q w pc lv (.int y :: .long x :: st) := by
  intro H locs ls h1 h2 h3
  have k := k H locs ls h1 h2 h3
  rw [hd.2] at k
  exact lv_lshr C.1.1 C.1.2.1 hd.1 rfl k
theorem v_idiv (C : vC G B p m meth c cc nL ret s args own) {x y : Int32} (hd : vD cc pc .idiv 1 pc') (hne : ¬ y = 0) (k : V G B p l e R s m args below meth c nL cells slots Q w pc' lv (.int (x / y) :: st)) : V G B p l e R s m args below meth c nL cells slots Q w pc lv (.int y :: .int x :: st) := by
  intro H locs ls h1 h2 h3
  have k := k H locs ls h1 h2 h3
  rw [hd.2] at k
  exact lv_idiv C.1.1 C.1.2.1 hd.1 hne k
theorem v_irem (C : vC G B p m meth c cc nL ret s args own) {x y : Int32} (hd : vD cc pc .irem 1 pc') (hne : ¬ y = 0) (k : V G B p l e R s m args below meth c nL cells slots Q w pc' lv (.int (x - x / y * y) :: st)) : V G B p l e R s m args below meth c nL cells slots Q w pc lv (.int y :: .int x :: st) := by
  intro H locs ls h1 h2 h3
  have k := k H locs ls h1 h2 h3
  rw [hd.2] at k
  exact lv_irem C.1.1 C.1.2.1 hd.1 hne k
theorem v_ineg (C : vC G B p m meth c cc nL ret s args own) {x : Int32} (hd : vD cc pc .ineg 1 pc')  (k : V G B p l e R s m args below meth c nL cells slots Q w pc' lv (.int (-x) :: st)) : V G B p l e R s m args below meth c nL cells slots Q w pc lv (.int x :: st) := by
  intro H locs ls h1 h2 h3
  have k := k H locs ls h1 h2 h3
  rw [hd.2] at k
  exact lv_ineg C.1.1 C.1.2.1 hd.1 k
theorem v_lneg (C : vC G B p m meth c cc nL ret s args own) {x : Int64} (hd : vD cc pc .lneg 1 pc')  (k : V G B p l e R s m args below meth c nL cells slots Q w pc' lv (.long (-x) :: st)) : V G B p l e R s m args below meth c nL cells slots Q w pc lv (.long x :: st) := by
  intro H locs ls h1 h2 h3
  have k := k H locs ls h1 h2 h3
  rw [hd.2] at k
  exact lv_lneg C.1.1 C.1.2.1 hd.1 k
theorem v_i2l (C : vC G B p m meth c cc nL ret s args own) {x : Int32} (hd : vD cc pc .i2l 1 pc')  (k : V G B p l e R s m args below meth c nL cells slots Q w pc' lv (.long x.toInt64 :: st)) : V G B p l e R s m args below meth c nL cells slots Q w pc lv (.int x :: st) := by
  intro H locs ls h1 h2 h3
  have k := k H locs ls h1 h2 h3
  rw [hd.2] at k
  exact lv_i2l C.1.1 C.1.2.1 hd.1 rfl k
theorem v_l2i (C : vC G B p m meth c cc nL ret s args own) {x : Int64} (hd : vD cc pc .l2i 1 pc')  (k : V G B p l e R s m args below meth c nL cells slots Q w pc' lv (.int x.toInt32 :: st)) : V G B p l e R s m args below meth c nL cells slots Q w pc lv (.long x :: st) := by
  intro H locs ls h1 h2 h3
  have k := k H locs ls h1 h2 h3
  rw [hd.2] at k
  exact lv_l2i C.1.1 C.1.2.1 hd.1 rfl k
theorem v_i2b (C : vC G B p m meth c cc nL ret s args own) {x : Int32} (hd : vD cc pc .i2b 1 pc')  (k : V G B p l e R s m args below meth c nL cells slots Q w pc' lv (.int x.toInt8.toInt32 :: st)) : V G B p l e R s m args below meth c nL cells slots Q w pc lv (.int x :: st) := by
  intro H locs ls h1 h2 h3
  have k := k H locs ls h1 h2 h3
  rw [hd.2] at k
  exact lv_i2b C.1.1 C.1.2.1 hd.1 rfl k
theorem v_lcmp (C : vC G B p m meth c cc nL ret s args own) {x y : Int64} (hd : vD cc pc .lcmp 1 pc')  (k : V G B p l e R s m args below meth c nL cells slots Q w pc' lv (.int (lg_cmp x y) :: st)) : V G B p l e R s m args below meth c nL cells slots Q w pc lv (.long y :: .long x :: st) := by
  intro H locs ls h1 h2 h3
  have k := k H locs ls h1 h2 h3
  rw [hd.2] at k
  exact W.lcmp C.1.1 C.1.2.1 hd.1 k
theorem v_dup (C : vC G B p m meth c cc nL ret s args own) {va : Value} (hd : vD cc pc .dup 1 pc') (hva : va.category = 1) (k : V G B p l e R s m args below meth c nL cells slots Q w pc' lv (va :: va :: st)) : V G B p l e R s m args below meth c nL cells slots Q w pc lv (va :: st) := by
  intro H locs ls h1 h2 h3
  have k := k H locs ls h1 h2 h3
  rw [hd.2] at k
  exact lv_dup C.1.1 C.1.2.1 hd.1 hva k
theorem v_pop (C : vC G B p m meth c cc nL ret s args own) {va : Value} (hd : vD cc pc .pop 1 pc') (hva : va.category = 1) (k : V G B p l e R s m args below meth c nL cells slots Q w pc' lv (st)) : V G B p l e R s m args below meth c nL cells slots Q w pc lv (va :: st) := by
  intro H locs ls h1 h2 h3
  have k := k H locs ls h1 h2 h3
  rw [hd.2] at k
  exact lv_pop C.1.1 C.1.2.1 hd.1 hva k
theorem v_dup_x1 (C : vC G B p m meth c cc nL ret s args own) {va vb : Value} (hd : vD cc pc .dup_x1 1 pc') (hva : va.category = 1) (hvb : vb.category = 1) (k : V G B p l e R s m args below meth c nL cells slots Q w pc' lv (va :: vb :: va :: st)) : V G B p l e R s m args below meth c nL cells slots Q w pc lv (va :: vb :: st) := by
  intro H locs ls h1 h2 h3
  have k := k H locs ls h1 h2 h3
  rw [hd.2] at k
  exact lv_dup_x1 C.1.1 C.1.2.1 hd.1 hva hvb k
theorem v_dup_x2 (C : vC G B p m meth c cc nL ret s args own) {va vb vc : Value} (hd : vD cc pc .dup_x2 1 pc') (hva : va.category = 1) (hvb : vb.category = 1) (hvc : vc.category = 1) (k : V G B p l e R s m args below meth c nL cells slots Q w pc' lv (va :: vb :: vc :: va :: st)) : V G B p l e R s m args below meth c nL cells slots Q w pc lv (va :: vb :: vc :: st) := by
  intro H locs ls h1 h2 h3
  have k := k H locs ls h1 h2 h3
  rw [hd.2] at k
  exact lv_dup_x2 C.1.1 C.1.2.1 hd.1 hva hvb hvc k
theorem v_dup2_11 (C : vC G B p m meth c cc nL ret s args own) {va vb : Value} (hd : vD cc pc .dup2 1 pc') (hva : va.category = 1) (hvb : vb.category = 1) (k : V G B p l e R s m args below meth c nL cells slots Q w pc' lv (va :: vb :: va :: vb :: st)) : V G B p l e R s m args below meth c nL cells slots Q w pc lv (va :: vb :: st) := by
  intro H locs ls h1 h2 h3
  have k := k H locs ls h1 h2 h3
  rw [hd.2] at k
  exact lv_dup2_11 C.1.1 C.1.2.1 hd.1 hva hvb k
theorem v_dup2_2 (C : vC G B p m meth c cc nL ret s args own) {va : Value} (hd : vD cc pc .dup2 1 pc') (hva : va.category = 2) (k : V G B p l e R s m args below meth c nL cells slots Q w pc' lv (va :: va :: st)) : V G B p l e R s m args below meth c nL cells slots Q w pc lv (va :: st) := by
  intro H locs ls h1 h2 h3
  have k := k H locs ls h1 h2 h3
  rw [hd.2] at k
  exact lv_dup2_2 C.1.1 C.1.2.1 hd.1 hva k
theorem v_if_eq (C : vC G B p m meth c cc nL ret s args own) {x : Int32} {off : Int} {tgt : Nat} (hd : vD cc pc (.ifCond .eq off) 3 pc') (ht : (pc : Int) + off = (tgt : Int)) (kt : x = 0 → V G B p l e R s m args below meth c nL cells slots Q w tgt lv st) (kf : ¬ x = 0 → V G B p l e R s m args below meth c nL cells slots Q w pc' lv st) : V G B p l e R s m args below meth c nL cells slots Q w pc lv (.int x :: st) := by
  intro H locs ls h1 h2 h3
  rw [hd.2] at kf
  exact lv_if_eq C.1.1 C.1.2.1 hd.1 ht (fun q => kt q H locs ls h1 h2 h3) (fun q => kf q H locs ls h1 h2 h3)
theorem v_icmp_eq (C : vC G B p m meth c cc nL ret s args own) {x y : Int32} {off : Int} {tgt : Nat} (hd : vD cc pc (.if_icmp .eq off) 3 pc') (ht : (pc : Int) + off = (tgt : Int)) (kt : x = y → V G B p l e R s m args below meth c nL cells slots Q w tgt lv st) (kf : ¬ x = y → V G B p l e R s m args below meth c nL cells slots Q w pc' lv st) : V G B p l e R s m args below meth c nL cells slots Q w pc lv (.int y :: .int x :: st) := by
  intro H locs ls h1 h2 h3
  rw [hd.2] at kf
  exact lv_icmp_eq C.1.1 C.1.2.1 hd.1 ht (fun q => kt q H locs ls h1 h2 h3) (fun q => kf q H locs ls h1 h2 h3)
theorem v_if_ne (C : vC G B p m meth c cc nL ret s args own) {x : Int32} {off : Int} {tgt : Nat} (hd : vD cc pc (.ifCond .ne off) 3 pc') (ht : (pc : Int) + off = (tgt : Int)) (kt : ¬ x = 0 → V G B p l e R s m args below meth c nL cells slots Q w tgt lv st) (kf : x = 0 → V G B p l e R s m args below meth c nL cells slots Q w pc' lv st) : V G B p l e R s m args below meth c nL cells slots Q w pc lv (.int x :: st) := by
  intro H locs ls h1 h2 h3
  rw [hd.2] at kf
  exact lv_if_ne C.1.1 C.1.2.1 hd.1 ht (fun q => kt q H locs ls h1 h2 h3) (fun q => kf q H locs ls h1 h2 h3)
theorem v_icmp_ne (C : vC G B p m meth c cc nL ret s args own) {x y : Int32} {off : Int} {tgt : Nat} (hd : vD cc pc (.if_icmp .ne off) 3 pc') (ht : (pc : Int) + off = (tgt : Int)) (kt : ¬ x = y → V G B p l e R s m args below meth c nL cells slots Q w tgt lv st) (kf : x = y → V G B p l e R s m args below meth c nL cells slots Q w pc' lv st) : V G B p l e R s m args below meth c nL cells slots Q w pc lv (.int y :: .int x :: st) := by
  intro H locs ls h1 h2 h3
  rw [hd.2] at kf
  exact lv_icmp_ne C.1.1 C.1.2.1 hd.1 ht (fun q => kt q H locs ls h1 h2 h3) (fun q => kf q H locs ls h1 h2 h3)
theorem v_if_lt (C : vC G B p m meth c cc nL ret s args own) {x : Int32} {off : Int} {tgt : Nat} (hd : vD cc pc (.ifCond .lt off) 3 pc') (ht : (pc : Int) + off = (tgt : Int)) (kt : x < 0 → V G B p l e R s m args below meth c nL cells slots Q w tgt lv st) (kf : ¬ x < 0 → V G B p l e R s m args below meth c nL cells slots Q w pc' lv st) : V G B p l e R s m args below meth c nL cells slots Q w pc lv (.int x :: st) := by
  intro H locs ls h1 h2 h3
  rw [hd.2] at kf
  exact lv_if_lt C.1.1 C.1.2.1 hd.1 ht (fun q => kt q H locs ls h1 h2 h3) (fun q => kf q H locs ls h1 h2 h3)
theorem v_icmp_lt (C : vC G B p m meth c cc nL ret s args own) {x y : Int32} {off : Int} {tgt : Nat} (hd : vD cc pc (.if_icmp .lt off) 3 pc') (ht : (pc : Int) + off = (tgt : Int)) (kt : x < y → V G B p l e R s m args below meth c nL cells slots Q w tgt lv st) (kf : ¬ x < y → V G B p l e R s m args below meth c nL cells slots Q w pc' lv st) : V G B p l e R s m args below meth c nL cells slots Q w pc lv (.int y :: .int x :: st) := by
  intro H locs ls h1 h2 h3
  rw [hd.2] at kf
  exact lv_icmp_lt C.1.1 C.1.2.1 hd.1 ht (fun q => kt q H locs ls h1 h2 h3) (fun q => kf q H locs ls h1 h2 h3)
theorem v_if_ge (C : vC G B p m meth c cc nL ret s args own) {x : Int32} {off : Int} {tgt : Nat} (hd : vD cc pc (.ifCond .ge off) 3 pc') (ht : (pc : Int) + off = (tgt : Int)) (kt : 0 ≤ x → V G B p l e R s m args below meth c nL cells slots Q w tgt lv st) (kf : ¬ 0 ≤ x → V G B p l e R s m args below meth c nL cells slots Q w pc' lv st) : V G B p l e R s m args below meth c nL cells slots Q w pc lv (.int x :: st) := by
  intro H locs ls h1 h2 h3
  rw [hd.2] at kf
  exact lv_if_ge C.1.1 C.1.2.1 hd.1 ht (fun q => kt q H locs ls h1 h2 h3) (fun q => kf q H locs ls h1 h2 h3)
theorem v_icmp_ge (C : vC G B p m meth c cc nL ret s args own) {x y : Int32} {off : Int} {tgt : Nat} (hd : vD cc pc (.if_icmp .ge off) 3 pc') (ht : (pc : Int) + off = (tgt : Int)) (kt : y ≤ x → V G B p l e R s m args below meth c nL cells slots Q w tgt lv st) (kf : ¬ y ≤ x → V G B p l e R s m args below meth c nL cells slots Q w pc' lv st) : V G B p l e R s m args below meth c nL cells slots Q w pc lv (.int y :: .int x :: st) := by
  intro H locs ls h1 h2 h3
  rw [hd.2] at kf
  exact lv_icmp_ge C.1.1 C.1.2.1 hd.1 ht (fun q => kt q H locs ls h1 h2 h3) (fun q => kf q H locs ls h1 h2 h3)
theorem v_if_gt (C : vC G B p m meth c cc nL ret s args own) {x : Int32} {off : Int} {tgt : Nat} (hd : vD cc pc (.ifCond .gt off) 3 pc') (ht : (pc : Int) + off = (tgt : Int)) (kt : 0 < x → V G B p l e R s m args below meth c nL cells slots Q w tgt lv st) (kf : ¬ 0 < x → V G B p l e R s m args below meth c nL cells slots Q w pc' lv st) : V G B p l e R s m args below meth c nL cells slots Q w pc lv (.int x :: st) := by
  intro H locs ls h1 h2 h3
  rw [hd.2] at kf
  exact lv_if_gt C.1.1 C.1.2.1 hd.1 ht (fun q => kt q H locs ls h1 h2 h3) (fun q => kf q H locs ls h1 h2 h3)
theorem v_icmp_gt (C : vC G B p m meth c cc nL ret s args own) {x y : Int32} {off : Int} {tgt : Nat} (hd : vD cc pc (.if_icmp .gt off) 3 pc') (ht : (pc : Int) + off = (tgt : Int)) (kt : y < x → V G B p l e R s m args below meth c nL cells slots Q w tgt lv st) (kf : ¬ y < x → V G B p l e R s m args below meth c nL cells slots Q w pc' lv st) : V G B p l e R s m args below meth c nL cells slots Q w pc lv (.int y :: .int x :: st) := by
  intro H locs ls h1 h2 h3
  rw [hd.2] at kf
  exact lv_icmp_gt C.1.1 C.1.2.1 hd.1 ht (fun q => kt q H locs ls h1 h2 h3) (fun q => kf q H locs ls h1 h2 h3)
theorem v_if_le (C : vC G B p m meth c cc nL ret s args own) {x : Int32} {off : Int} {tgt : Nat} (hd : vD cc pc (.ifCond .le off) 3 pc') (ht : (pc : Int) + off = (tgt : Int)) (kt : x ≤ 0 → V G B p l e R s m args below meth c nL cells slots Q w tgt lv st) (kf : ¬ x ≤ 0 → V G B p l e R s m args below meth c nL cells slots Q w pc' lv st) : V G B p l e R s m args below meth c nL cells slots Q w pc lv (.int x :: st) := by
  intro H locs ls h1 h2 h3
  rw [hd.2] at kf
  exact lv_if_le C.1.1 C.1.2.1 hd.1 ht (fun q => kt q H locs ls h1 h2 h3) (fun q => kf q H locs ls h1 h2 h3)
theorem v_icmp_le (C : vC G B p m meth c cc nL ret s args own) {x y : Int32} {off : Int} {tgt : Nat} (hd : vD cc pc (.if_icmp .le off) 3 pc') (ht : (pc : Int) + off = (tgt : Int)) (kt : x ≤ y → V G B p l e R s m args below meth c nL cells slots Q w tgt lv st) (kf : ¬ x ≤ y → V G B p l e R s m args below meth c nL cells slots Q w pc' lv st) : V G B p l e R s m args below meth c nL cells slots Q w pc lv (.int y :: .int x :: st) := by
  intro H locs ls h1 h2 h3
  rw [hd.2] at kf
  exact lv_icmp_le C.1.1 C.1.2.1 hd.1 ht (fun q => kt q H locs ls h1 h2 h3) (fun q => kf q H locs ls h1 h2 h3)
theorem v_goto (C : vC G B p m meth c cc nL ret s args own) {off : Int} {tgt : Nat} (hd : vD cc pc (.goto off) 3 pc') (ht : (pc : Int) + off = (tgt : Int)) (k : V G B p l e R s m args below meth c nL cells slots Q w tgt lv st) : V G B p l e R s m args below meth c nL cells slots Q w pc lv st := fun H locs ls h1 h2 h3 => lv_goto C.1.1 C.1.2.1 hd.1 ht (k H locs ls h1 h2 h3)
end VRows
end
section
section VHeap
variable {G : vG} {B : Nat} {p : Program} {l : Launch} {e : Env} {R : Room} {s : State} {m : MethodId} {args : Array Value} {below : List Frame} {meth : Method} {c : Code} {nL cells slots : Nat} {Q : State → Prop} {w : vW} {cc : ByteArray} {ret : Option FieldType} {own : String} {pc pc' : Nat} {lv : List (Nat × Value)} {st : List Value}
theorem v_bald (C : vC G B p m meth c cc nL ret s args own) {a n : Nat} {f : Nat → Int32} {i : Int32} (hd : vD cc pc .baload 1 pc') (hw : w a = some (eB G n f)) (j : Nat) (hi : i = nI j) (hj : j < n) (hn : n < 2 ^ 31) (k : V G B p l e R s m args below meth c nL cells slots Q w pc' lv (.int (f j) :: st)) : V G B p l e R s m args below meth c nL cells slots Q w pc lv (.int i :: .ref a :: st) := by
  subst hi
  intro H locs ls h1 h2 h3
  have k := k H locs ls h1 h2 h3
  rw [hd.2] at k
  obtain ⟨ws, hP, hD, hH⟩ := h1
  obtain ⟨q0, hq⟩ := hH _ _ hw
  refine va_bald C.1.1 C.1.2.1 C.2.1.1 hP q0 0 hq rfl (vp_in_nI hj hn) hd.1 ?_
  rw [nI_clamp (Nat.lt_trans hj hn)]
  exact k
theorem v_iald (C : vC G B p m meth c cc nL ret s args own) {a n : Nat} {f : Nat → Int32} {i : Int32} (hd : vD cc pc .iaload 1 pc') (hw : w a = some (eI G n f)) (j : Nat) (hi : i = nI j) (hj : j < n) (hn : n < 2 ^ 31) (k : V G B p l e R s m args below meth c nL cells slots Q w pc' lv (.int (f j) :: st)) : V G B p l e R s m args below meth c nL cells slots Q w pc lv (.int i :: .ref a :: st) := by
  subst hi
  intro H locs ls h1 h2 h3
  have k := k H locs ls h1 h2 h3
  rw [hd.2] at k
  obtain ⟨ws, hP, hD, hH⟩ := h1
  obtain ⟨q0, hq⟩ := hH _ _ hw
  refine va_iald C.1.1 C.1.2.1 C.2.1.1 hP q0 1 hq rfl (vp_in_nI hj hn) hd.1 ?_
  rw [nI_clamp (Nat.lt_trans hj hn)]
  exact k
theorem v_lald (C : vC G B p m meth c cc nL ret s args own) {a n : Nat} {f : Nat → Int64} {i : Int32} (hd : vD cc pc .laload 1 pc') (hw : w a = some (eJ G n f)) (j : Nat) (hi : i = nI j) (hj : j < n) (hn : n < 2 ^ 31) (k : V G B p l e R s m args below meth c nL cells slots Q w pc' lv (.long (f j) :: st)) : V G B p l e R s m args below meth c nL cells slots Q w pc lv (.int i :: .ref a :: st) := by
  subst hi
  intro H locs ls h1 h2 h3
  have k := k H locs ls h1 h2 h3
  rw [hd.2] at k
  obtain ⟨ws, hP, hD, hH⟩ := h1
  obtain ⟨q0, hq⟩ := hH _ _ hw
  refine va_lald C.1.1 C.1.2.1 C.2.1.1 hP q0 2 hq rfl (vp_in_nI hj hn) hd.1 ?_
  rw [nI_clamp (Nat.lt_trans hj hn)]
  exact k
theorem v_bast (C : vC G B p m meth c cc nL ret s args own) {a n : Nat} {f : Nat → Int32} {i : Int32} {x : Int32} (hd : vD cc pc .bastore 1 pc') (hw : w a = some (eB G n f)) (j : Nat) (hi : i = nI j) (hj : j < n) (hn : n < 2 ^ 31) (k : V G B p l e R s m args below meth c nL cells slots Q (vUp w a (eB G n (upd f j (vp_nar .byte x)))) pc' lv st) : V G B p l e R s m args below meth c nL cells slots Q w pc lv (.int x :: .int i :: .ref a :: st) := by
  subst hi
  intro H locs ls h1 h2 h3
  rw [hd.2] at k
  obtain ⟨ws, hP, hD, hH⟩ := h1
  obtain ⟨q0, hq⟩ := hH _ _ hw
  refine va_bast C.1.1 C.1.2.1 C.2.1.1 hP hD h2 q0 0 hq rfl (vp_in_nI hj hn) hd.1 (fun H1 locs1 hP1 hD1 hS1 => ?_)
  rw [nI_clamp (Nat.lt_trans hj hn)] at hP1 hD1
  exact k H1 locs1 ls ⟨_, hP1, hD1, hH.set hD hq⟩ hS1 h3
theorem v_iast (C : vC G B p m meth c cc nL ret s args own) {a n : Nat} {f : Nat → Int32} {i : Int32} {x : Int32} (hd : vD cc pc .iastore 1 pc') (hw : w a = some (eI G n f)) (j : Nat) (hi : i = nI j) (hj : j < n) (hn : n < 2 ^ 31) (k : V G B p l e R s m args below meth c nL cells slots Q (vUp w a (eI G n (upd f j x))) pc' lv st) : V G B p l e R s m args below meth c nL cells slots Q w pc lv (.int x :: .int i :: .ref a :: st) := by
  subst hi
  intro H locs ls h1 h2 h3
  rw [hd.2] at k
  obtain ⟨ws, hP, hD, hH⟩ := h1
  obtain ⟨q0, hq⟩ := hH _ _ hw
  refine va_iast C.1.1 C.1.2.1 C.2.1.1 hP hD h2 q0 1 hq rfl (vp_in_nI hj hn) hd.1 (fun H1 locs1 hP1 hD1 hS1 => ?_)
  rw [nI_clamp (Nat.lt_trans hj hn)] at hP1 hD1
  exact k H1 locs1 ls ⟨_, hP1, hD1, hH.set hD hq⟩ hS1 h3
theorem v_last (C : vC G B p m meth c cc nL ret s args own) {a n : Nat} {f : Nat → Int64} {i : Int32} {x : Int64} (hd : vD cc pc .lastore 1 pc') (hw : w a = some (eJ G n f)) (j : Nat) (hi : i = nI j) (hj : j < n) (hn : n < 2 ^ 31) (k : V G B p l e R s m args below meth c nL cells slots Q (vUp w a (eJ G n (vp_updL f j x))) pc' lv st) : V G B p l e R s m args below meth c nL cells slots Q w pc lv (.long x :: .int i :: .ref a :: st) := by
  subst hi
  intro H locs ls h1 h2 h3
  rw [hd.2] at k
  obtain ⟨ws, hP, hD, hH⟩ := h1
  obtain ⟨q0, hq⟩ := hH _ _ hw
  refine va_last C.1.1 C.1.2.1 C.2.1.1 hP hD h2 q0 2 hq rfl (vp_in_nI hj hn) hd.1 (fun H1 locs1 hP1 hD1 hS1 => ?_)
  rw [nI_clamp (Nat.lt_trans hj hn)] at hP1 hD1
  exact k H1 locs1 ls ⟨_, hP1, hD1, hH.set hD hq⟩ hS1 h3
theorem v_alenB (C : vC G B p m meth c cc nL ret s args own) {a n : Nat} {f : Nat → Int32} (hd : vD cc pc .arraylength 1 pc') (hw : w a = some (eB G n f)) (k : V G B p l e R s m args below meth c nL cells slots Q w pc' lv (.int (nI n) :: st)) : V G B p l e R s m args below meth c nL cells slots Q w pc lv (.ref a :: st) := by
  intro H locs ls h1 h2 h3
  have k := k H locs ls h1 h2 h3
  rw [hd.2] at k
  obtain ⟨ws, hP, hD, hH⟩ := h1
  obtain ⟨q0, hq⟩ := hH _ _ hw
  exact va_alen C.1.1 C.1.2.1 C.2.1.1 hP q0 0 hq rfl rfl hd.1 k
theorem v_alenI (C : vC G B p m meth c cc nL ret s args own) {a n : Nat} {f : Nat → Int32} (hd : vD cc pc .arraylength 1 pc') (hw : w a = some (eI G n f)) (k : V G B p l e R s m args below meth c nL cells slots Q w pc' lv (.int (nI n) :: st)) : V G B p l e R s m args below meth c nL cells slots Q w pc lv (.ref a :: st) := by
  intro H locs ls h1 h2 h3
  have k := k H locs ls h1 h2 h3
  rw [hd.2] at k
  obtain ⟨ws, hP, hD, hH⟩ := h1
  obtain ⟨q0, hq⟩ := hH _ _ hw
  exact va_alen C.1.1 C.1.2.1 C.2.1.1 hP q0 1 hq rfl rfl hd.1 k
theorem v_alenJ (C : vC G B p m meth c cc nL ret s args own) {a n : Nat} {f : Nat → Int64} (hd : vD cc pc .arraylength 1 pc') (hw : w a = some (eJ G n f)) (k : V G B p l e R s m args below meth c nL cells slots Q w pc' lv (.int (nI n) :: st)) : V G B p l e R s m args below meth c nL cells slots Q w pc lv (.ref a :: st) := by
  intro H locs ls h1 h2 h3
  have k := k H locs ls h1 h2 h3
  rw [hd.2] at k
  obtain ⟨ws, hP, hD, hH⟩ := h1
  obtain ⟨q0, hq⟩ := hH _ _ hw
  exact va_alen C.1.1 C.1.2.1 C.2.1.1 hP q0 2 hq rfl rfl hd.1 k
theorem v_get (C : vC G B p m meth c cc nL ret s args own) {a ci index k0 : Nat} {fs : List Value} {v : Value} (hf : vFld own index ci k0) (hd : vD cc pc (.getfield index) 3 pc') (hw : w a = some (eO ci fs)) (hv : fs[k0]? = some v) (k : V G B p l e R s m args below meth c nL cells slots Q w pc' lv (v :: st)) : V G B p l e R s m args below meth c nL cells slots Q w pc lv (.ref a :: st) := by
  intro H locs ls h1 h2 h3
  have k := k H locs ls h1 h2 h3
  rw [hd.2] at k
  obtain ⟨ws, hP, hD, hH⟩ := h1
  obtain ⟨q0, hq⟩ := hH _ _ hw
  obtain ⟨Cn, T, N, ref, host, hc, hk, hin, hlink, hsame⟩ := hf
  have hS : ∀ x, s.fieldFound? (T k0).1 (T k0).2.1 (T k0).2.2.1 = some x → s.fieldFound? ref (T k0).2.1 (T k0).2.2.1 = some x := by
    rcases hsame with h | h
    · intro x hx; rw [h]; exact hx
    · exact fun x hx => u_same (C.1.2.2.2.2 _ h) x hx
  rcases hlink with h | h
  · exact va_get C.1.1 C.1.2.1 C.1.2.2.2.2 hin C.1.2.2.2.1 C.2.1.1 hP q0 hq hc k0 hk (C.1.2.2.2.2 _ h) hS hv hd.1 k
  · exact va_getN C.1.1 C.1.2.1 C.1.2.2.2.2 hin C.1.2.2.2.1 C.2.1.1 hP q0 hq hc k0 hk (va_Nw.use rfl (C.2.1.2.2.1 _ h)) hS hv hd.1 k
theorem v_put (C : vC G B p m meth c cc nL ret s args own) {a ci index k0 : Nat} {fs : List Value} {v : Value} {ty : FieldType} (hf : vFldP own index ci k0 ty) (hd : vD cc pc (.putfield index) 3 pc') (hw : w a = some (eO ci fs)) (hn : narrow ty v = v) (hfit : fits ty v = true) (hl : k0 < fs.length) (k : V G B p l e R s m args below meth c nL cells slots Q (vUp w a (eO ci (fs.set k0 v))) pc' lv st) : V G B p l e R s m args below meth c nL cells slots Q w pc lv (v :: .ref a :: st) := by
  intro H locs ls h1 h2 h3
  rw [hd.2] at k
  obtain ⟨ws, hP, hD, hH⟩ := h1
  obtain ⟨q0, hq⟩ := hH _ _ hw
  obtain ⟨Cn, T, N, ref, host, ty0, hc, hk, hin, hlink, hsame, hty, hnm, hfin, hpd⟩ := hf
  have hS : ∀ x, s.fieldFound? (T k0).1 (T k0).2.1 (T k0).2.2.1 = some x → s.fieldFound? ref (T k0).2.1 (T k0).2.2.1 = some x := by
    rcases hsame with h | h
    · intro x hx; rw [h]; exact hx
    · exact fun x hx => u_same (C.1.2.2.2.2 _ h) x hx
  rcases hlink with h | h
  · exact va_put C.1.1 C.1.2.1 C.1.2.2.2.2 hin ty0 hty hnm C.1.2.2.2.1 C.2.1.1 hP hD h2 q0 hq hc k0 hk (C.1.2.2.2.2 _ h) hS hfin hpd hn hfit hl hd.1 (fun H1 locs1 hP1 hD1 hS1 => k H1 locs1 ls ⟨_, hP1, hD1, hH.set hD hq⟩ hS1 h3)
  · exact va_putN C.1.1 C.1.2.1 C.1.2.2.2.2 hin ty0 hty hnm C.1.2.2.2.1 C.2.1.1 hP hD h2 q0 hq hc k0 hk (va_Nw.use rfl (C.2.1.2.2.1 _ h)) hS hfin hpd hn hfit hl hd.1 (fun H1 locs1 hP1 hD1 hS1 => k H1 locs1 ls ⟨_, hP1, hD1, hH.set hD hq⟩ hS1 h3)
theorem v_topi {x : Int32} (k : ∀ y : Int32, y = x → V G B p l e R s m args below meth c nL cells slots Q w pc lv (.int y :: st)) : V G B p l e R s m args below meth c nL cells slots Q w pc lv (.int x :: st) := k x rfl
theorem v_topl {x : Int64} (k : ∀ y : Int64, y = x → V G B p l e R s m args below meth c nL cells slots Q w pc lv (.long y :: st)) : V G B p l e R s m args below meth c nL cells slots Q w pc lv (.long x :: st) := k x rfl
theorem v_eq {lv' : List (Nat × Value)} {st' : List Value} {w' : vW} (h1 : w = w') (h2 : lv = lv') (h3 : st = st') (k : V G B p l e R s m args below meth c nL cells slots Q w' pc lv' st') : V G B p l e R s m args below meth c nL cells slots Q w pc lv st := by subst h1; subst h2; subst h3; exact k
theorem v_sub {w' : vW} (hw : ∀ a e, w' a = some e → w a = some e) (k : V G B p l e R s m args below meth c nL cells slots Q w' pc lv st) : V G B p l e R s m args below meth c nL cells slots Q w pc lv st := fun H locs ls h1 h2 h3 => k H locs ls (h1.sub hw) h2 h3
theorem v_pick {lv' : List (Nat × Value)} (ks : List Nat) (hl : lv_pick lv ks = lv') (k : V G B p l e R s m args below meth c nL cells slots Q w pc lv' st) : V G B p l e R s m args below meth c nL cells slots Q w pc lv st := fun H locs ls h1 h2 h3 => k H locs ls h1 h2 (lv_sub h3 ks hl)
theorem v_wide {k n : Nat} (h1 : cells ≤ k) (h2 : slots ≤ n) (kk : V G B p l e R s m args below meth c nL k n Q w pc lv st) : V G B p l e R s m args below meth c nL cells slots Q w pc lv st := fun H locs ls a1 a2 a3 => W.widen h1 h2 (kk H locs ls a1 a2 a3)
theorem v_iret (C : vC G B p m meth c cc nL ret s args own) (hret : ret = (some .int)) {v : Int32} {post : Option Value → vW → Prop} (hd : vD cc pc .ireturn 1 pc') (hp : post (some (.int v)) w) : V G B p l e R s m args below meth c nL cells slots (MQ below (vQ G B post) args s cells slots (fun q => B ≤ q)) w pc lv [.int v] := fun H locs ls h1 h2 h3 => W.iret C.1.1 C.1.2.1 (C.2.2.1.trans hret) (fun t ht hW => ⟨⟨_, w, rfl, hp, by rw [ht]; exact h1⟩, h2.F ht⟩) h2.2.2 hd.1 C.2.2.2
theorem v_lret (C : vC G B p m meth c cc nL ret s args own) (hret : ret = (some .long)) {v : Int64} {post : Option Value → vW → Prop} (hd : vD cc pc .lreturn 1 pc') (hp : post (some (.long v)) w) : V G B p l e R s m args below meth c nL cells slots (MQ below (vQ G B post) args s cells slots (fun q => B ≤ q)) w pc lv [.long v] := fun H locs ls h1 h2 h3 => W.lret C.1.1 C.1.2.1 (C.2.2.1.trans hret) (fun t ht hW => ⟨⟨_, w, rfl, hp, by rw [ht]; exact h1⟩, h2.F ht⟩) h2.2.2 hd.1 C.2.2.2
theorem v_zret (C : vC G B p m meth c cc nL ret s args own) {ty : FieldType} (hret : ret = some ty) {v : Int32} {post : Option Value → vW → Prop} (hn : narrow ty (.int v) = .int v) (hd : vD cc pc .ireturn 1 pc') (hp : post (some (.int v)) w) : V G B p l e R s m args below meth c nL cells slots (MQ below (vQ G B post) args s cells slots (fun q => B ≤ q)) w pc lv [.int v] := fun H locs ls h1 h2 h3 => W.zret C.1.1 C.1.2.1 (C.2.2.1.trans hret) hn (fun t ht hW => ⟨⟨_, w, rfl, hp, by rw [ht]; exact h1⟩, h2.F ht⟩) h2.2.2 hd.1 C.2.2.2
theorem v_aret (C : vC G B p m meth c cc nL ret s args own) {ty : FieldType} (hret : ret = some ty) (hty : (∃ n, ty = .object n) ∨ ∃ t, ty = .array t) {a : Nat} {post : Option Value → vW → Prop} (hd : vD cc pc .areturn 1 pc') (hp : post (some (.ref a)) w) : V G B p l e R s m args below meth c nL cells slots (MQ below (vQ G B post) args s cells slots (fun q => B ≤ q)) w pc lv [.ref a] := fun H locs ls h1 h2 h3 => W.aret C.1.1 C.1.2.1 (C.2.2.1.trans hret) hty (Or.inr ⟨a, rfl⟩) (fun t ht hW => ⟨⟨_, w, rfl, hp, by rw [ht]; exact h1⟩, h2.F ht⟩) h2.2.2 hd.1 C.2.2.2
theorem v_vret (C : vC G B p m meth c cc nL ret s args own) (hret : ret = none) {post : Option Value → vW → Prop} (hd : vD cc pc .return_ 1 pc') (hp : post none w) : V G B p l e R s m args below meth c nL cells slots (MQ below (vQ G B post) args s cells slots (fun q => B ≤ q)) w pc lv [] := fun H locs ls h1 h2 h3 => W.vret C.1.1 C.1.2.1 (C.2.2.1.trans hret) (fun t ht hW => ⟨⟨_, w, rfl, hp, by rw [ht]; exact h1⟩, h2.F ht⟩) h2.2.2 hd.1 C.2.2.2
theorem vOk.of {y : MethodName} {bytes : ByteArray} {maxL d mc ms : Nat} {av : List Value} {post : Option Value → vW → Prop} (hy : plainName y.cls = true) (hlen : (lg_sl av).length ≤ maxL)
    (h : ∀ (p : Program) (e : Env) (s : State) (m : MethodId) (args : Array Value) (below : List Frame) (meth : Method) (c : Code), vC G B p m meth c bytes maxL ret s args y.cls → V G B p l e (vRm d mc ms) s m args below meth c maxL 0 0 (MQ below (vQ G B post) args s mc ms (fun q => B ≤ q)) w 0 (lv_args 0 av) []) : vOk G B l y bytes maxL ret d mc ms av w post := by
  refine Met.ofW (cc := bytes) (maxL := maxL) (ret := ret) hy rfl ?_
  intro p e s m args below meth c s₁ Bd hml hv
  obtain ⟨rfl, hE, hW⟩ := hv
  have hts := atoms_spec (ws := Cond.code y bytes maxL ret :: vGW) Bd.pre
  have hown : s.vm.findClass y.cls = some m.cls := findClass_of_methodNamed Bd.named
  have C : vC G B p m meth c bytes maxL ret s av.toArray y.cls := ⟨⟨Bd.exec, Bd.bytes, hml, hown, fun w h => hts w (List.mem_cons_of_mem _ h)⟩, hE, Bd.returns, Bd.notSynchronized⟩
  rw [lg_entry_eq]
  exact h p e s m _ below meth c C s.heap [] _ hW va_S.rf (lv_entry av hlen)
theorem v_cont {mc ms : Nat} {st0 rest : List Value} {a : Array Value} {post : Option Value → vW → Prop} (hr : ∀ (H : Heap) (locs : List Loc) (ls : Array Slot), vHolds G B w H → va_S (fun q => B ≤ q) s.heap H locs → lv_has ls nL lv → va_Run p l e R s m args below meth c H locs cells slots mc ms (F0 m pc ls st0) rest (vQ G B post a) (fun q => B ≤ q))
    (kk : ∀ (r : Option Value) (w' : vW), post r w' → V G B p l e R s m args below meth c nL (cells + mc) (slots + ms) Q w' (pc + 3) lv (r.toList ++ rest)) : V G B p l e R s m args below meth c nL cells slots Q w pc lv st0 := by
  intro H locs ls h1 h2 h3 T hT X
  obtain ⟨v, st₀, t, T', L, h0, X', hL, e1, e2, ⟨⟨r, w', hv, hp, hb⟩, hz, hk⟩, stp⟩ := hr H locs ls h1 h2 h3 T hT X
  cases hv
  rw [h0] at hz hk
  obtain ⟨t2, a1, b1⟩ := kk v w' hp T'.heap (locs ++ L) ls (by rw [e1]; exact hb) ⟨Nat.le_trans h2.1 (by rw [e1]; exact hz), fun q q1 q2 => by rw [e1, hk q (Nat.lt_of_lt_of_le q1 h2.1) q2]; exact h2.2.1 q q1 q2, fun q hq => by
      rcases List.mem_append.mp hq with h | h
      · exact h2.2.2 q h
      · exact hL q h⟩ h3 T' rfl X'
  exact ⟨t2, stp t2 a1, b1⟩
theorem vBlind {av : List Value} : FrameBlind (va_Pc av (fun U => vEnv G B U ∧ vHolds G B w U.heap)) := fun a U g mk q => ⟨q.1, q.2.1.blind, q.2.2⟩
theorem vPre {H : Heap} {locs : List Loc} {av : List Value} (hE : vEnv G B s) (h1 : vHolds G B w H) (h2 : va_S (fun q => B ≤ q) s.heap H locs) : PreS s H (va_Pc av (fun U => vEnv G B U ∧ vHolds G B w U.heap)) av := ⟨vBlind, fun U hU hW => ⟨rfl, hE.carry h2 hU hW, by rw [hU]; exact h1⟩⟩
theorem vPreV {H : Heap} {locs : List Loc} {b ci : Nat} {fs As : List Value} {q : vw_C} (hE : vEnv G B s) (h1 : vHolds G B w H) (h2 : va_S (fun q => B ≤ q) s.heap H locs) (hw : w b = some (eO ci fs)) (hc : vCl[ci]? = some q) : PreV s H q.1 b (va_Pc (.ref b :: As) (fun U => vEnv G B U ∧ vHolds G B w U.heap)) As := by
  refine ⟨vBlind, ?_, fun U hU hW => ⟨rfl, hE.carry h2 hU hW, by rw [hU]; exact h1⟩⟩
  obtain ⟨ws, hP, hD, hH⟩ := h1
  obtain ⟨q0, hq⟩ := hH _ _ hw
  exact va_recv hE.1 hP hc hq
theorem vGood {y : MethodName} {bytes : ByteArray} {maxL : Nat} {rt : Option FieldType} (h : Cond.code y bytes maxL rt ∈ vGW) : GoodIn vGW (Cond.code y bytes maxL rt :: vGW) := by
  intro w hw
  rcases List.mem_cons.mp hw with rfl | h2
  · exact ⟨h, vGW_ok _ h⟩
  · exact ⟨h2, vGW_ok _ h2⟩
theorem vRm_fit {d d1 mc ms mc1 ms1 maxL : Nat} (h : d + 1 ≤ d1) (hl : maxL ≤ 60) : (vRm d mc ms).frames + 1 ≤ (vRm d1 mc1 ms1).frames ∧ 8 + (maxL + 11) + (vRm d mc ms).locals ≤ (vRm d1 mc1 ms1).locals := by
  refine ⟨h, ?_⟩
  show 8 + (maxL + 11) + 100 * d ≤ 100 * d1
  omega
theorem v_callS (C : vC G B p m meth c cc nL ret s args own) {index n maxL d mc ms d1 mc1 ms1 : Nat} {y : MethodName} {bytes : ByteArray} {rt : Option FieldType} {av rest : List Value} {post : Option Value → vW → Prop} (hm : vLS own index y bytes maxL rt n) (hok : vOk G B l y bytes maxL rt d mc ms av w post) (hR : R = vRm d1 mc1 ms1) (hdd : d + 1 ≤ d1) (hml : maxL ≤ 60) (hrm : cells + mc ≤ mc1 ∧ slots + ms ≤ ms1) (hn : av.length = n) (hst : st = av.reverse ++ rest) (hroom : (rest.map fun v => v.category).sum ≤ 8) (hd : vD cc pc (.invokestatic index) 3 pc') (k : ∀ (r : Option Value) (w' : vW), post r w' → V G B p l e R s m args below meth c nL (cells + mc) (slots + ms) Q w' pc' lv (r.toList ++ rest)) : V G B p l e R s m args below meth c nL cells slots Q w pc lv st := by
  subst hst; subst hR
  obtain ⟨hlink, hstat, hini, hcode, hcls, hpar⟩ := hm
  rw [hd.2] at k
  refine v_cont (mc := mc) (ms := ms) (rest := rest) (post := post) (a := av.toArray) (fun H locs ls h1 h2 h3 => ?_) k
  rcases hlink with h | ⟨host, h⟩
  · exact va_runS C.1 hok ⟨callB_of n C.1.2.2.2.2 (vGood hcode) rfl rfl rfl (C.1.2.2.2.2 _ hini) (C.1.2.2.2.2 _ h) ⟨hcls.1, hcls.2, hpar⟩ (vRm_fit hdd hml), C.1.2.2.2.2 _ hstat⟩ (vPre C.2.1 h1 h2) rfl hn h3.1 rfl (lv_room hroom) hd.1 hrm
  · exact va_runSN C.1 hok ⟨va_cnB n C.1.2.2.2.2 (vGood hcode) rfl rfl rfl (C.2.1.2.2.1 _ h) (C.1.2.2.2.2 _ hini) ⟨hcls.1, hcls.2, hpar⟩ (vRm_fit hdd hml), C.1.2.2.2.2 _ hstat, trivial⟩ (vPre C.2.1 h1 h2) rfl hn h3.1 rfl (lv_room hroom) hd.1 hrm
theorem v_callV (C : vC G B p m meth c cc nL ret s args own) {index n maxL d mc ms d1 mc1 ms1 : Nat} {y : MethodName} {bytes : ByteArray} {rt : Option FieldType} {As rest fs : List Value} {b ci : Nat} {post : Option Value → vW → Prop} (hm : vLV own index y bytes maxL rt n ci) (hok : vOk G B l y bytes maxL rt d mc ms (.ref b :: As) w post) (hw : w b = some (eO ci fs)) (hR : R = vRm d1 mc1 ms1) (hdd : d + 1 ≤ d1) (hml : maxL ≤ 60) (hrm : cells + mc ≤ mc1 ∧ slots + ms ≤ ms1) (hn : As.length = n) (hst : st = As.reverse ++ .ref b :: rest) (hroom : (rest.map fun v => v.category).sum ≤ 8) (hd : vD cc pc (.invokevirtual index) 3 pc') (k : ∀ (r : Option Value) (w' : vW), post r w' → V G B p l e R s m args below meth c nL (cells + mc) (slots + ms) Q w' pc' lv (r.toList ++ rest)) : V G B p l e R s m args below meth c nL cells slots Q w pc lv st := by
  subst hst; subst hR
  obtain ⟨⟨q, hc, hq⟩, hlink, hinst, hsel, hini, hcode, hcls, hpar⟩ := hm
  rw [hd.2] at k
  refine v_cont (mc := mc) (ms := ms) (rest := rest) (post := post) (a := (Value.ref b :: As).toArray) (fun H locs ls h1 h2 h3 => ?_) k
  have hpre := vPreV (As := As) C.2.1 h1 h2 hw hc
  rw [hq] at hpre
  rcases hlink with h | ⟨host, h⟩
  · exact va_runV C.1 hok ⟨callB_of n C.1.2.2.2.2 (vGood hcode) rfl rfl rfl (C.1.2.2.2.2 _ hini) (C.1.2.2.2.2 _ h) ⟨hcls.1, hcls.2, hpar⟩ (vRm_fit hdd hml), C.1.2.2.2.2 _ hinst, C.1.2.2.2.2 _ hsel⟩ hpre rfl hn h3.1 rfl (lv_room hroom) hd.1 hrm
  · exact va_runVN C.1 hok ⟨va_cnB n C.1.2.2.2.2 (vGood hcode) rfl rfl rfl (C.2.1.2.2.1 _ h) (C.1.2.2.2.2 _ hini) ⟨hcls.1, hcls.2, hpar⟩ (vRm_fit hdd hml), C.1.2.2.2.2 _ hinst, C.1.2.2.2.2 _ hsel⟩ hpre rfl hn h3.1 rfl (lv_room hroom) hd.1 hrm
theorem v_callI (C : vC G B p m meth c cc nL ret s args own) {index n maxL d mc ms d1 mc1 ms1 : Nat} {y : MethodName} {bytes : ByteArray} {rt : Option FieldType} {As rest : List Value} {b : Nat} {post : Option Value → vW → Prop} (hm : vLI own index y bytes maxL n) (hok : vOk G B l y bytes maxL none d mc ms (.ref b :: As) w post) (hR : R = vRm d1 mc1 ms1) (hdd : d + 1 ≤ d1) (hml : maxL ≤ 60) (hrm : cells + mc ≤ mc1 ∧ slots + ms ≤ ms1) (hn : As.length = n) (hst : st = As.reverse ++ .ref b :: rest) (hroom : (rest.map fun v => v.category).sum ≤ 8) (hd : vD cc pc (.invokespecial index) 3 pc') (k : ∀ (r : Option Value) (w' : vW), post r w' → V G B p l e R s m args below meth c nL (cells + mc) (slots + ms) Q w' pc' lv (r.toList ++ rest)) : V G B p l e R s m args below meth c nL cells slots Q w pc lv st := by
  subst hst; subst hR
  obtain ⟨hlink, hinst, hini, hcode, hname, hcls, hpar⟩ := hm
  rw [hd.2] at k
  refine v_cont (mc := mc) (ms := ms) (rest := rest) (post := post) (a := (Value.ref b :: As).toArray) (fun H locs ls h1 h2 h3 => ?_) k
  rcases hlink with h | ⟨host, h⟩
  · exact va_runI C.1 hok ⟨callB_of n C.1.2.2.2.2 (vGood hcode) rfl rfl rfl (C.1.2.2.2.2 _ hini) (C.1.2.2.2.2 _ h) ⟨hcls.1, hcls.2, hpar⟩ (vRm_fit hdd hml), hname, C.1.2.2.2.2 _ hinst⟩ (vPre C.2.1 h1 h2) rfl hn h3.1 rfl (lv_room hroom) hd.1 hrm
  · exact va_runIN C.1 hok ⟨va_cnB n C.1.2.2.2.2 (vGood hcode) rfl rfl rfl (C.2.1.2.2.1 _ h) (C.1.2.2.2.2 _ hini) ⟨hcls.1, hcls.2, hpar⟩ (vRm_fit hdd hml), hname, C.1.2.2.2.2 _ hinst⟩ (vPre C.2.1 h1 h2) rfl hn h3.1 rfl (lv_room hroom) hd.1 hrm
theorem v_callU (C : vC G B p m meth c cc nL ret s args own) {index n maxL d mc ms d1 mc1 ms1 : Nat} {y : MethodName} {bytes : ByteArray} {rt : Option FieldType} {x : MethodName} {As rest fs : List Value} {b ci : Nat} {post : Option Value → vW → Prop} (hm : vLU own index x y bytes maxL rt n ci) (hok : vOk G B l y bytes maxL rt d mc ms (.ref b :: As) w post) (hw : w b = some (eO ci fs)) (hR : R = vRm d1 mc1 ms1) (hdd : d + 1 ≤ d1) (hml : maxL ≤ 60) (hrm : cells + mc ≤ mc1 ∧ slots + ms ≤ ms1) (hn : As.length = n) (hst : st = As.reverse ++ .ref b :: rest) (hroom : (rest.map fun v => v.category).sum ≤ 8) (hd : vD cc pc (.invokevirtual index) 3 pc') (k : ∀ (r : Option Value) (w' : vW), post r w' → V G B p l e R s m args below meth c nL (cells + mc) (slots + ms) Q w' pc' lv (r.toList ++ rest)) : V G B p l e R s m args below meth c nL cells slots Q w pc lv st := by
  subst hst; subst hR
  obtain ⟨q, owner, hc, hlink, hsame, hdecl, hsel, hinst, hini, hcode, hcls, hpar⟩ := hm
  rw [hd.2] at k
  refine v_cont (mc := mc) (ms := ms) (rest := rest) (post := post) (a := (Value.ref b :: As).toArray) (fun H locs ls h1 h2 h3 => ?_) k
  have hpre := vPreV (As := As) C.2.1 h1 h2 hw hc
  have hdc : va_Decl s ⟨owner, x.name, x.desc⟩ := by
    rcases hdecl with h | ⟨b0, m0, r0, h, h0⟩
    · exact va_Decl.abs (C.2.1.2.2.1 _ h)
    · exact va_Decl.of (C.1.2.2.2.2 _ h) (C.1.2.2.2.2 _ h0)
  have hG := vGood hcode
  refine va_runU C.1 hok ⟨⟨rfl, rfl, (vRm_fit hdd hml).1, (vRm_fit hdd hml).2, pay_in C.1.2.2.2.2 hG, List.mem_cons_self⟩, C.1.2.2.2.2 _ hcode, C.1.2.2.2.2 _ hini, hcls, fun sig h => ?_, C.1.2.2.2.2 _ hlink, C.1.2.2.2.2 _ hsame, hdc, C.1.2.2.2.2 _ hsel, C.1.2.2.2.2 _ hinst⟩ hpre rfl hn h3.1 rfl (lv_room hroom) hd.1 hrm
  have hp2 : (parseMethodDescriptor x.desc).map (fun d => d.parameters.length) = some n := hpar
  rw [h] at hp2
  exact (Option.some.inj hp2).symm
theorem v_copyB (C : vC G B p m meth c cc nL ret s args own) {index a0 a n0 n1 d1 mc1 ms1 : Nat} {f g : Nat → Int32} {i1 i2 i3 : Int32} (hl : Cond.methodLink own index arraycopyName ∈ vGW) (hd : vD cc pc (.invokestatic index) 3 pc') (hs : w a0 = some (eB G n0 f)) (ht : w a = some (eB G n1 g)) (sp dp n : Nat) (e1 : i1 = nI sp) (e2 : i2 = nI dp) (e3 : i3 = nI n) (h4 : sp + n ≤ n0) (h5 : dp + n ≤ n1) (hn0 : n0 < 2 ^ 31) (hn1 : n1 < 2 ^ 31) (hfit : ∀ i, i < n → fits .byte (.int (f (sp + i))) = true) (hR : R = vRm d1 mc1 ms1) (hd1 : 1 ≤ d1) (hroom : (st.map fun v => v.category).sum ≤ 8) (k : V G B p l e R s m args below meth c nL cells slots Q (vUp w a (eB G n1 (va_cpy f g sp dp n))) pc' lv st) : V G B p l e R s m args below meth c nL cells slots Q w pc lv (.int i3 :: .int i2 :: .ref a :: .int i1 :: .ref a0 :: st) := by
  subst e1; subst e2; subst e3; subst hR
  intro H locs ls h1 h2 h3
  rw [hd.2] at k
  obtain ⟨ws, hP, hD, hH⟩ := h1
  obtain ⟨q0, hq0⟩ := hH _ _ hs
  obtain ⟨q1, hq1⟩ := hH _ _ ht
  have hw80 : nativeFrameWords "java/lang/System" "arraycopy" 5 + 11 ≤ 80 := by decide +kernel
  have hlb : (st.map fun v => v.category).sum + (nativeFrameWords "java/lang/System" "arraycopy" 5 + 11) ≤ (vRm d1 mc1 ms1).locals := by
    show _ ≤ 100 * d1
    omega
  have c1 : (nI sp).toNatClampNeg = sp := nI_clamp (by omega)
  have c2 : (nI dp).toNatClampNeg = dp := nI_clamp (by omega)
  have c3 : (nI n).toNatClampNeg = n := nI_clamp (by omega)
  refine va_copyi C.1.1 C.1.2.1 (C.1.2.2.1.trans h3.1.symm) C.1.2.2.2.1 (C.1.2.2.2.2 _ hl) (C.1.2.2.2.2 _ vw_cpyN) (C.1.2.2.2.2 _ vw_cpyS) (C.1.2.2.2.2 _ vw_cpyI) C.2.1.1 hP hD h2 q0 q1 0 0 hq0 hq1 rfl rfl rfl (nI_pos (by omega)) (nI_pos (by omega)) (nI_pos (by omega)) (by rw [c1, c3]; exact h4) (by rw [c2, c3]; exact h5) (by rw [c1, c3]; exact hfit) hd1 hlb hd.1 (fun H1 locs1 hP1 hD1 hS1 => ?_)
  rw [c1, c2, c3] at hP1 hD1
  exact k H1 locs1 ls ⟨_, hP1, hD1, hH.set hD hq1⟩ hS1 h3
theorem v_copyJ (C : vC G B p m meth c cc nL ret s args own) {index a0 a n0 n1 d1 mc1 ms1 : Nat} {f g : Nat → Int64} {i1 i2 i3 : Int32} (hl : Cond.methodLink own index arraycopyName ∈ vGW) (hd : vD cc pc (.invokestatic index) 3 pc') (hs : w a0 = some (eJ G n0 f)) (ht : w a = some (eJ G n1 g)) (sp dp n : Nat) (e1 : i1 = nI sp) (e2 : i2 = nI dp) (e3 : i3 = nI n) (h4 : sp + n ≤ n0) (h5 : dp + n ≤ n1) (hn0 : n0 < 2 ^ 31) (hn1 : n1 < 2 ^ 31) (hR : R = vRm d1 mc1 ms1) (hd1 : 1 ≤ d1) (hroom : (st.map fun v => v.category).sum ≤ 8) (k : V G B p l e R s m args below meth c nL cells slots Q (vUp w a (eJ G n1 (va_cpy f g sp dp n))) pc' lv st) : V G B p l e R s m args below meth c nL cells slots Q w pc lv (.int i3 :: .int i2 :: .ref a :: .int i1 :: .ref a0 :: st) := by
  subst e1; subst e2; subst e3; subst hR
  intro H locs ls h1 h2 h3
  rw [hd.2] at k
  obtain ⟨ws, hP, hD, hH⟩ := h1
  obtain ⟨q0, hq0⟩ := hH _ _ hs
  obtain ⟨q1, hq1⟩ := hH _ _ ht
  have hw80 : nativeFrameWords "java/lang/System" "arraycopy" 5 + 11 ≤ 80 := by decide +kernel
  have hlb : (st.map fun v => v.category).sum + (nativeFrameWords "java/lang/System" "arraycopy" 5 + 11) ≤ (vRm d1 mc1 ms1).locals := by
    show _ ≤ 100 * d1
    omega
  have c1 : (nI sp).toNatClampNeg = sp := nI_clamp (by omega)
  have c2 : (nI dp).toNatClampNeg = dp := nI_clamp (by omega)
  have c3 : (nI n).toNatClampNeg = n := nI_clamp (by omega)
  refine va_copyl C.1.1 C.1.2.1 (C.1.2.2.1.trans h3.1.symm) C.1.2.2.2.1 (C.1.2.2.2.2 _ hl) (C.1.2.2.2.2 _ vw_cpyN) (C.1.2.2.2.2 _ vw_cpyS) (C.1.2.2.2.2 _ vw_cpyI) C.2.1.1 hP hD h2 q0 q1 2 2 hq0 hq1 rfl rfl rfl (nI_pos (by omega)) (nI_pos (by omega)) (nI_pos (by omega)) (by rw [c1, c3]; exact h4) (by rw [c2, c3]; exact h5) (fun _ _ => rfl) hd1 hlb hd.1 (fun H1 locs1 hP1 hD1 hS1 => ?_)
  rw [c1, c2, c3] at hP1 hD1
  exact k H1 locs1 ls ⟨_, hP1, hD1, hH.set hD hq1⟩ hS1 h3
theorem v_gen {a : Nat} {e' : va_E} (k : ∀ w' : vW, w' a = some e' → (∀ q, q ≠ a → w' q = w q) → V G B p l e R s m args below meth c nL cells slots Q w' pc lv st) : V G B p l e R s m args below meth c nL cells slots Q (vUp w a e') pc lv st := k _ vUp_self (fun q h => vUp_ne h)
theorem v_natT {x y : Int32} (h : x = y) (k : V G B p l e R s m args below meth c nL cells slots Q w pc lv (.int y :: st)) : V G B p l e R s m args below meth c nL cells slots Q w pc lv (.int x :: st) := by subst h; exact k
theorem v_tsw (C : vC G B p m meth c cc nL ret s args own) {dflt lo hi : Int} {offs : Array Int} {len : Nat} {x : Int32} {off : Int} {tgt : Nat} (hd : vD cc pc (.tableswitch dflt lo hi offs) len pc') (h1 : ¬ x.toInt < lo) (h2 : ¬ hi < x.toInt) (ho : offs[(x.toInt - lo).toNat]? = some off) (ht : (pc : Int) + off = (tgt : Int)) (k : V G B p l e R s m args below meth c nL cells slots Q w tgt lv st) : V G B p l e R s m args below meth c nL cells slots Q w pc lv (.int x :: st) := fun H locs ls a1 a2 a3 => lv_tableIn C.1.1 C.1.2.1 hd.1 h1 h2 ho ht (k H locs ls a1 a2 a3)
end VHeap
end
section
set_option maxRecDepth 100000 in
theorem ivw_X0 : ∀ w ∈ wsX00, w ∈ vGW := fun w h => by
  have q := List.all_eq_true.mp (show (wsX00).all (fun w => decide (w ∈ tables_1) && goodWord w) = true from by decide +kernel) w h
  rw [Bool.and_eq_true, decide_eq_true_eq] at q
  exact List.mem_filter.mpr ⟨List.mem_append_right _ q.1, q.2⟩
set_option maxRecDepth 100000 in
theorem ivw_X1 : ∀ w ∈ wsX10, w ∈ vGW := fun w h => by
  have q := List.all_eq_true.mp (show (wsX10).all (fun w => decide (w ∈ tables_1) && goodWord w) = true from by decide +kernel) w h
  rw [Bool.and_eq_true, decide_eq_true_eq] at q
  exact List.mem_filter.mpr ⟨List.mem_append_right _ q.1, q.2⟩
set_option maxRecDepth 100000 in
theorem ivw_X4 : ∀ w ∈ wsX40, w ∈ vGW := fun w h => by
  have q := List.all_eq_true.mp (show (wsX40).all (fun w => decide (w ∈ tables_1) && goodWord w) = true from by decide +kernel) w h
  rw [Bool.and_eq_true, decide_eq_true_eq] at q
  exact List.mem_filter.mpr ⟨List.mem_append_right _ q.1, q.2⟩
set_option maxRecDepth 100000 in
theorem ivw_X5 : ∀ w ∈ wsX50, w ∈ vGW := fun w h => by
  have q := List.all_eq_true.mp (show (wsX50).all (fun w => decide (w ∈ tables_1) && goodWord w) = true from by decide +kernel) w h
  rw [Bool.and_eq_true, decide_eq_true_eq] at q
  exact List.mem_filter.mpr ⟨List.mem_append_right _ q.1, q.2⟩
set_option maxRecDepth 100000 in
theorem ivw_X6 : ∀ w ∈ wsX60, w ∈ vGW := fun w h => by
  have q := List.all_eq_true.mp (show (wsX60).all (fun w => decide (w ∈ tables_1) && goodWord w) = true from by decide +kernel) w h
  rw [Bool.and_eq_true, decide_eq_true_eq] at q
  exact List.mem_filter.mpr ⟨List.mem_append_right _ q.1, q.2⟩
set_option maxRecDepth 100000 in
theorem ivw_X7 : ∀ w ∈ wsX70, w ∈ vGW := fun w h => by
  have q := List.all_eq_true.mp (show (wsX70).all (fun w => decide (w ∈ tables_1) && goodWord w) = true from by decide +kernel) w h
  rw [Bool.and_eq_true, decide_eq_true_eq] at q
  exact List.mem_filter.mpr ⟨List.mem_append_right _ q.1, q.2⟩
set_option maxRecDepth 100000 in
theorem ivw_X9 : ∀ w ∈ wsX90, w ∈ vGW := fun w h => by
  have q := List.all_eq_true.mp (show (wsX90).all (fun w => decide (w ∈ tables_1) && goodWord w) = true from by decide +kernel) w h
  rw [Bool.and_eq_true, decide_eq_true_eq] at q
  exact List.mem_filter.mpr ⟨List.mem_append_right _ q.1, q.2⟩
set_option maxRecDepth 100000 in
theorem ivw_X10 : ∀ w ∈ wsX100, w ∈ vGW := fun w h => by
  have q := List.all_eq_true.mp (show (wsX100).all (fun w => decide (w ∈ tables_1) && goodWord w) = true from by decide +kernel) w h
  rw [Bool.and_eq_true, decide_eq_true_eq] at q
  exact List.mem_filter.mpr ⟨List.mem_append_right _ q.1, q.2⟩
set_option maxRecDepth 100000 in
theorem ivw_X11 : ∀ w ∈ wsX110, w ∈ vGW := fun w h => by
  have q := List.all_eq_true.mp (show (wsX110).all (fun w => decide (w ∈ tables_1) && goodWord w) = true from by decide +kernel) w h
  rw [Bool.and_eq_true, decide_eq_true_eq] at q
  exact List.mem_filter.mpr ⟨List.mem_append_right _ q.1, q.2⟩
set_option maxRecDepth 100000 in
theorem ivw_X12 : ∀ w ∈ wsX120, w ∈ vGW := fun w h => by
  have q := List.all_eq_true.mp (show (wsX120).all (fun w => decide (w ∈ tables_1) && goodWord w) = true from by decide +kernel) w h
  rw [Bool.and_eq_true, decide_eq_true_eq] at q
  exact List.mem_filter.mpr ⟨List.mem_append_right _ q.1, q.2⟩
theorem vw_60 : (Jvm.Cond.fieldLink "HashTreeSigner$Address" (7 : Nat) "HashTreeSigner$Address" "bytes" "[B") ∈ vGW := vGW_at 60 (by decide +kernel) (by decide +kernel)
theorem fX0_7_X0 : vFld RX0 7 0 0 := ⟨RX0, TX0, 5, "HashTreeSigner$Address", "", rfl, by decide, ivw_X0, Or.inl vw_60, Or.inl rfl⟩
theorem fX0_7_X0f : vFldF RX0 7 0 0 (.array .byte) := ⟨RX0, TX0, 5, "HashTreeSigner$Address", "", tyX0, rfl, by decide, ivw_X0, Or.inl vw_60, Or.inl rfl, tyX0_ok, nmX0, rfl, rfl, by decide +kernel⟩
theorem vw_61 : (Jvm.Cond.fieldLink "HashTreeSigner$ShakeFamily" (42 : Nat) "HashTreeSigner$Address" "bytes" "[B") ∈ vGW := vGW_at 61 (by decide +kernel) (by decide +kernel)
theorem fX7_42_X0 : vFld RX7 42 0 0 := ⟨RX0, TX0, 5, "HashTreeSigner$Address", "", rfl, by decide, ivw_X0, Or.inl vw_61, Or.inl rfl⟩
theorem vw_62 : (Jvm.Cond.fieldLink "HashTreeSigner$Sha2Family" (74 : Nat) "HashTreeSigner$Address" "bytes" "[B") ∈ vGW := vGW_at 62 (by decide +kernel) (by decide +kernel)
theorem fX5_74_X0 : vFld RX5 74 0 0 := ⟨RX0, TX0, 5, "HashTreeSigner$Address", "", rfl, by decide, ivw_X0, Or.inl vw_62, Or.inl rfl⟩
theorem vw_63 : (Jvm.Cond.fieldLink "HashTreeSigner$Address" (13 : Nat) "HashTreeSigner$Address" "layerAt" "I") ∈ vGW := vGW_at 63 (by decide +kernel) (by decide +kernel)
theorem fX0_13_X0 : vFld RX0 13 0 1 := ⟨RX0, TX0, 5, "HashTreeSigner$Address", "", rfl, by decide, ivw_X0, Or.inl vw_63, Or.inl rfl⟩
theorem fX0_13_X0f : vFldF RX0 13 0 1 .int := ⟨RX0, TX0, 5, "HashTreeSigner$Address", "", tyX0, rfl, by decide, ivw_X0, Or.inl vw_63, Or.inl rfl, tyX0_ok, nmX0, rfl, rfl, by decide +kernel⟩
theorem vw_64 : (Jvm.Cond.fieldLink "HashTreeSigner$Address" (17 : Nat) "HashTreeSigner$Address" "treeAt" "I") ∈ vGW := vGW_at 64 (by decide +kernel) (by decide +kernel)
theorem fX0_17_X0 : vFld RX0 17 0 2 := ⟨RX0, TX0, 5, "HashTreeSigner$Address", "", rfl, by decide, ivw_X0, Or.inl vw_64, Or.inl rfl⟩
theorem fX0_17_X0f : vFldF RX0 17 0 2 .int := ⟨RX0, TX0, 5, "HashTreeSigner$Address", "", tyX0, rfl, by decide, ivw_X0, Or.inl vw_64, Or.inl rfl, tyX0_ok, nmX0, rfl, rfl, by decide +kernel⟩
theorem vw_65 : (Jvm.Cond.fieldLink "HashTreeSigner$Address" (20 : Nat) "HashTreeSigner$Address" "typeAt" "I") ∈ vGW := vGW_at 65 (by decide +kernel) (by decide +kernel)
theorem fX0_20_X0 : vFld RX0 20 0 3 := ⟨RX0, TX0, 5, "HashTreeSigner$Address", "", rfl, by decide, ivw_X0, Or.inl vw_65, Or.inl rfl⟩
theorem fX0_20_X0f : vFldF RX0 20 0 3 .int := ⟨RX0, TX0, 5, "HashTreeSigner$Address", "", tyX0, rfl, by decide, ivw_X0, Or.inl vw_65, Or.inl rfl, tyX0_ok, nmX0, rfl, rfl, by decide +kernel⟩
theorem vw_66 : (Jvm.Cond.fieldLink "HashTreeSigner$Address" (23 : Nat) "HashTreeSigner$Address" "wordsAt" "I") ∈ vGW := vGW_at 66 (by decide +kernel) (by decide +kernel)
theorem fX0_23_X0 : vFld RX0 23 0 4 := ⟨RX0, TX0, 5, "HashTreeSigner$Address", "", rfl, by decide, ivw_X0, Or.inl vw_66, Or.inl rfl⟩
theorem fX0_23_X0f : vFldF RX0 23 0 4 .int := ⟨RX0, TX0, 5, "HashTreeSigner$Address", "", tyX0, rfl, by decide, ivw_X0, Or.inl vw_66, Or.inl rfl, tyX0_ok, nmX0, rfl, rfl, by decide +kernel⟩
theorem vw_90 : (Jvm.Cond.fieldLink "HashTreeSigner$Sponge" (7 : Nat) "HashTreeSigner$Sponge" "lanes" "[J") ∈ vGW := vGW_at 90 (by decide +kernel) (by decide +kernel)
theorem fX9_7_X9 : vFld RX9 7 6 0 := ⟨RX9, TX9, 3, "HashTreeSigner$Sponge", "", rfl, by decide, ivw_X9, Or.inl vw_90, Or.inl rfl⟩
theorem fX9_7_X9f : vFldF RX9 7 6 0 (.array .long) := ⟨RX9, TX9, 3, "HashTreeSigner$Sponge", "", tyX9, rfl, by decide, ivw_X9, Or.inl vw_90, Or.inl rfl, tyX9_ok, nmX9, rfl, rfl, by decide +kernel⟩
theorem vw_91 : (Jvm.Cond.fieldLink "HashTreeSigner$Sponge" (13 : Nat) "HashTreeSigner$Sponge" "mixed" "[J") ∈ vGW := vGW_at 91 (by decide +kernel) (by decide +kernel)
theorem fX9_13_X9 : vFld RX9 13 6 1 := ⟨RX9, TX9, 3, "HashTreeSigner$Sponge", "", rfl, by decide, ivw_X9, Or.inl vw_91, Or.inl rfl⟩
theorem fX9_13_X9f : vFldF RX9 13 6 1 (.array .long) := ⟨RX9, TX9, 3, "HashTreeSigner$Sponge", "", tyX9, rfl, by decide, ivw_X9, Or.inl vw_91, Or.inl rfl, tyX9_ok, nmX9, rfl, rfl, by decide +kernel⟩
theorem vw_92 : (Jvm.Cond.fieldLink "HashTreeSigner$Sponge" (16 : Nat) "HashTreeSigner$Sponge" "fill" "I") ∈ vGW := vGW_at 92 (by decide +kernel) (by decide +kernel)
theorem fX9_16_X9 : vFld RX9 16 6 2 := ⟨RX9, TX9, 3, "HashTreeSigner$Sponge", "", rfl, by decide, ivw_X9, Or.inl vw_92, Or.inl rfl⟩
theorem fX9_16_X9p : vFldP RX9 16 6 2 .int := ⟨RX9, TX9, 3, "HashTreeSigner$Sponge", "", tyX9, rfl, by decide, ivw_X9, Or.inl vw_92, Or.inl rfl, tyX9_ok, nmX9, rfl, by decide +kernel⟩
theorem vw_101 : (Jvm.Cond.fieldLink "HashTreeSigner$ShakeFamily" (17 : Nat) "HashTreeSigner$ShakeFamily" "sponge" "LHashTreeSigner$Sponge;") ∈ vGW := vGW_at 101 (by decide +kernel) (by decide +kernel)
theorem fX7_17_X7 : vFld RX7 17 5 3 := ⟨RX7, TX7, 4, "HashTreeSigner$ShakeFamily", "", rfl, by decide, ivw_X7, Or.inl vw_101, Or.inl rfl⟩
theorem fX7_17_X7f : vFldF RX7 17 5 3 (.object "HashTreeSigner$Sponge") := ⟨RX7, TX7, 4, "HashTreeSigner$ShakeFamily", "", tyX7, rfl, by decide, ivw_X7, Or.inl vw_101, Or.inl rfl, tyX7_ok, nmX7, rfl, rfl, by decide +kernel⟩
theorem vw_102 : (Jvm.Cond.fieldLink "HashTreeSigner$Family" (17 : Nat) "HashTreeSigner$Family" "address" "LHashTreeSigner$Address;") ∈ vGW := vGW_at 102 (by decide +kernel) (by decide +kernel)
theorem fX2_17_X5 : vFld RX2 17 3 0 := ⟨RX5, TX5, 8, "HashTreeSigner$Family", "", rfl, by decide, ivw_X5, Or.inl vw_102, Or.inl rfl⟩
theorem fX2_17_X5f : vFldF RX2 17 3 0 (.object "HashTreeSigner$Address") := ⟨RX5, TX5, 8, "HashTreeSigner$Family", "", tyX5, rfl, by decide, ivw_X5, Or.inl vw_102, Or.inl rfl, tyX5_ok, nmX5, rfl, rfl, by decide +kernel⟩
theorem fX2_17_X7 : vFld RX2 17 5 0 := ⟨RX7, TX7, 4, "HashTreeSigner$Family", "", rfl, by decide, ivw_X7, Or.inl vw_102, Or.inl rfl⟩
theorem fX2_17_X7f : vFldF RX2 17 5 0 (.object "HashTreeSigner$Address") := ⟨RX7, TX7, 4, "HashTreeSigner$Family", "", tyX7, rfl, by decide, ivw_X7, Or.inl vw_102, Or.inl rfl, tyX7_ok, nmX7, rfl, rfl, by decide +kernel⟩
theorem vw_104 : (Jvm.Cond.sameField "HashTreeSigner$ShakeFamily" "HashTreeSigner$Family" "address" "LHashTreeSigner$Address;") ∈ vGW := vGW_at 104 (by decide +kernel) (by decide +kernel)
theorem vw_103 : (Jvm.Cond.fieldLink "HashTreeSigner$ShakeFamily" (38 : Nat) "HashTreeSigner$ShakeFamily" "address" "LHashTreeSigner$Address;") ∈ vGW := vGW_at 103 (by decide +kernel) (by decide +kernel)
theorem fX7_38_X5 : vFld RX7 38 3 0 := ⟨RX5, TX5, 8, "HashTreeSigner$ShakeFamily", "", rfl, by decide, ivw_X5, Or.inl vw_103, Or.inr vw_104⟩
theorem fX7_38_X7 : vFld RX7 38 5 0 := ⟨RX7, TX7, 4, "HashTreeSigner$ShakeFamily", "", rfl, by decide, ivw_X7, Or.inl vw_103, Or.inr vw_104⟩
theorem vw_106 : (Jvm.Cond.sameField "HashTreeSigner$Sha2Family" "HashTreeSigner$Family" "address" "LHashTreeSigner$Address;") ∈ vGW := vGW_at 106 (by decide +kernel) (by decide +kernel)
theorem vw_105 : (Jvm.Cond.fieldLink "HashTreeSigner$Sha2Family" (70 : Nat) "HashTreeSigner$Sha2Family" "address" "LHashTreeSigner$Address;") ∈ vGW := vGW_at 105 (by decide +kernel) (by decide +kernel)
theorem fX5_70_X5 : vFld RX5 70 3 0 := ⟨RX5, TX5, 8, "HashTreeSigner$Sha2Family", "", rfl, by decide, ivw_X5, Or.inl vw_105, Or.inr vw_106⟩
theorem fX5_70_X7 : vFld RX5 70 5 0 := ⟨RX7, TX7, 4, "HashTreeSigner$Sha2Family", "", rfl, by decide, ivw_X7, Or.inl vw_105, Or.inr vw_106⟩
theorem vw_107 : (Jvm.Cond.fieldLink "HashTreeSigner$Chains" (46 : Nat) "HashTreeSigner$Family" "address" "LHashTreeSigner$Address;") ∈ vGW := vGW_at 107 (by decide +kernel) (by decide +kernel)
theorem fX1_46_X5 : vFld RX1 46 3 0 := ⟨RX5, TX5, 8, "HashTreeSigner$Family", "", rfl, by decide, ivw_X5, Or.inl vw_107, Or.inl rfl⟩
theorem fX1_46_X7 : vFld RX1 46 5 0 := ⟨RX7, TX7, 4, "HashTreeSigner$Family", "", rfl, by decide, ivw_X7, Or.inl vw_107, Or.inl rfl⟩
theorem vw_108 : (Jvm.Cond.fieldLink "HashTreeSigner$Trees" (101 : Nat) "HashTreeSigner$Family" "address" "LHashTreeSigner$Address;") ∈ vGW := vGW_at 108 (by decide +kernel) (by decide +kernel)
theorem fX10_101_X5 : vFld RX10 101 3 0 := ⟨RX5, TX5, 8, "HashTreeSigner$Family", "", rfl, by decide, ivw_X5, Or.inl vw_108, Or.inl rfl⟩
theorem fX10_101_X7 : vFld RX10 101 5 0 := ⟨RX7, TX7, 4, "HashTreeSigner$Family", "", rfl, by decide, ivw_X7, Or.inl vw_108, Or.inl rfl⟩
theorem vw_109 : (Jvm.Cond.fieldLink "HashTreeSigner$Family" (7 : Nat) "HashTreeSigner$Family" "key" "[B") ∈ vGW := vGW_at 109 (by decide +kernel) (by decide +kernel)
theorem fX2_7_X5 : vFld RX2 7 3 1 := ⟨RX5, TX5, 8, "HashTreeSigner$Family", "", rfl, by decide, ivw_X5, Or.inl vw_109, Or.inl rfl⟩
theorem fX2_7_X5f : vFldF RX2 7 3 1 (.array .byte) := ⟨RX5, TX5, 8, "HashTreeSigner$Family", "", tyX5, rfl, by decide, ivw_X5, Or.inl vw_109, Or.inl rfl, tyX5_ok, nmX5, rfl, rfl, by decide +kernel⟩
theorem fX2_7_X7 : vFld RX2 7 5 1 := ⟨RX7, TX7, 4, "HashTreeSigner$Family", "", rfl, by decide, ivw_X7, Or.inl vw_109, Or.inl rfl⟩
theorem fX2_7_X7f : vFldF RX2 7 5 1 (.array .byte) := ⟨RX7, TX7, 4, "HashTreeSigner$Family", "", tyX7, rfl, by decide, ivw_X7, Or.inl vw_109, Or.inl rfl, tyX7_ok, nmX7, rfl, rfl, by decide +kernel⟩
theorem vw_111 : (Jvm.Cond.sameField "HashTreeSigner$Sha2Family" "HashTreeSigner$Family" "key" "[B") ∈ vGW := vGW_at 111 (by decide +kernel) (by decide +kernel)
theorem vw_110 : (Jvm.Cond.fieldLink "HashTreeSigner$Sha2Family" (50 : Nat) "HashTreeSigner$Sha2Family" "key" "[B") ∈ vGW := vGW_at 110 (by decide +kernel) (by decide +kernel)
theorem fX5_50_X5 : vFld RX5 50 3 1 := ⟨RX5, TX5, 8, "HashTreeSigner$Sha2Family", "", rfl, by decide, ivw_X5, Or.inl vw_110, Or.inr vw_111⟩
theorem fX5_50_X7 : vFld RX5 50 5 1 := ⟨RX7, TX7, 4, "HashTreeSigner$Sha2Family", "", rfl, by decide, ivw_X7, Or.inl vw_110, Or.inr vw_111⟩
theorem vw_113 : (Jvm.Cond.sameField "HashTreeSigner$ShakeFamily" "HashTreeSigner$Family" "key" "[B") ∈ vGW := vGW_at 113 (by decide +kernel) (by decide +kernel)
theorem vw_112 : (Jvm.Cond.fieldLink "HashTreeSigner$ShakeFamily" (26 : Nat) "HashTreeSigner$ShakeFamily" "key" "[B") ∈ vGW := vGW_at 112 (by decide +kernel) (by decide +kernel)
theorem fX7_26_X5 : vFld RX7 26 3 1 := ⟨RX5, TX5, 8, "HashTreeSigner$ShakeFamily", "", rfl, by decide, ivw_X5, Or.inl vw_112, Or.inr vw_113⟩
theorem fX7_26_X7 : vFld RX7 26 5 1 := ⟨RX7, TX7, 4, "HashTreeSigner$ShakeFamily", "", rfl, by decide, ivw_X7, Or.inl vw_112, Or.inr vw_113⟩
theorem vw_114 : (Jvm.Cond.fieldLink "HashTreeSigner$Chains" (58 : Nat) "HashTreeSigner$Family" "key" "[B") ∈ vGW := vGW_at 114 (by decide +kernel) (by decide +kernel)
theorem fX1_58_X5 : vFld RX1 58 3 1 := ⟨RX5, TX5, 8, "HashTreeSigner$Family", "", rfl, by decide, ivw_X5, Or.inl vw_114, Or.inl rfl⟩
theorem fX1_58_X7 : vFld RX1 58 5 1 := ⟨RX7, TX7, 4, "HashTreeSigner$Family", "", rfl, by decide, ivw_X7, Or.inl vw_114, Or.inl rfl⟩
theorem vw_115 : (Jvm.Cond.fieldLink "HashTreeSigner$Trees" (123 : Nat) "HashTreeSigner$Family" "key" "[B") ∈ vGW := vGW_at 115 (by decide +kernel) (by decide +kernel)
theorem fX10_123_X5 : vFld RX10 123 3 1 := ⟨RX5, TX5, 8, "HashTreeSigner$Family", "", rfl, by decide, ivw_X5, Or.inl vw_115, Or.inl rfl⟩
theorem fX10_123_X7 : vFld RX10 123 5 1 := ⟨RX7, TX7, 4, "HashTreeSigner$Family", "", rfl, by decide, ivw_X7, Or.inl vw_115, Or.inl rfl⟩
theorem vw_116 : (Jvm.Cond.fieldLink "HashTreeSigner$Family" (13 : Nat) "HashTreeSigner$Family" "n" "I") ∈ vGW := vGW_at 116 (by decide +kernel) (by decide +kernel)
theorem fX2_13_X5 : vFld RX2 13 3 2 := ⟨RX5, TX5, 8, "HashTreeSigner$Family", "", rfl, by decide, ivw_X5, Or.inl vw_116, Or.inl rfl⟩
theorem fX2_13_X5p : vFldP RX2 13 3 2 .int := ⟨RX5, TX5, 8, "HashTreeSigner$Family", "", tyX5, rfl, by decide, ivw_X5, Or.inl vw_116, Or.inl rfl, tyX5_ok, nmX5, rfl, by decide +kernel⟩
theorem fX2_13_X7 : vFld RX2 13 5 2 := ⟨RX7, TX7, 4, "HashTreeSigner$Family", "", rfl, by decide, ivw_X7, Or.inl vw_116, Or.inl rfl⟩
theorem fX2_13_X7p : vFldP RX2 13 5 2 .int := ⟨RX7, TX7, 4, "HashTreeSigner$Family", "", tyX7, rfl, by decide, ivw_X7, Or.inl vw_116, Or.inl rfl, tyX7_ok, nmX7, rfl, by decide +kernel⟩
theorem vw_118 : (Jvm.Cond.sameField "HashTreeSigner$Sha2Family" "HashTreeSigner$Family" "n" "I") ∈ vGW := vGW_at 118 (by decide +kernel) (by decide +kernel)
theorem vw_117 : (Jvm.Cond.fieldLink "HashTreeSigner$Sha2Family" (53 : Nat) "HashTreeSigner$Sha2Family" "n" "I") ∈ vGW := vGW_at 117 (by decide +kernel) (by decide +kernel)
theorem fX5_53_X5 : vFld RX5 53 3 2 := ⟨RX5, TX5, 8, "HashTreeSigner$Sha2Family", "", rfl, by decide, ivw_X5, Or.inl vw_117, Or.inr vw_118⟩
theorem fX5_53_X5p : vFldP RX5 53 3 2 .int := ⟨RX5, TX5, 8, "HashTreeSigner$Sha2Family", "", tyX5, rfl, by decide, ivw_X5, Or.inl vw_117, Or.inr vw_118, tyX5_ok, nmX5, rfl, by decide +kernel⟩
theorem fX5_53_X7 : vFld RX5 53 5 2 := ⟨RX7, TX7, 4, "HashTreeSigner$Sha2Family", "", rfl, by decide, ivw_X7, Or.inl vw_117, Or.inr vw_118⟩
theorem fX5_53_X7p : vFldP RX5 53 5 2 .int := ⟨RX7, TX7, 4, "HashTreeSigner$Sha2Family", "", tyX7, rfl, by decide, ivw_X7, Or.inl vw_117, Or.inr vw_118, tyX7_ok, nmX7, rfl, by decide +kernel⟩
theorem vw_120 : (Jvm.Cond.sameField "HashTreeSigner$ShakeFamily" "HashTreeSigner$Family" "n" "I") ∈ vGW := vGW_at 120 (by decide +kernel) (by decide +kernel)
theorem vw_119 : (Jvm.Cond.fieldLink "HashTreeSigner$ShakeFamily" (30 : Nat) "HashTreeSigner$ShakeFamily" "n" "I") ∈ vGW := vGW_at 119 (by decide +kernel) (by decide +kernel)
theorem fX7_30_X5 : vFld RX7 30 3 2 := ⟨RX5, TX5, 8, "HashTreeSigner$ShakeFamily", "", rfl, by decide, ivw_X5, Or.inl vw_119, Or.inr vw_120⟩
theorem fX7_30_X5p : vFldP RX7 30 3 2 .int := ⟨RX5, TX5, 8, "HashTreeSigner$ShakeFamily", "", tyX5, rfl, by decide, ivw_X5, Or.inl vw_119, Or.inr vw_120, tyX5_ok, nmX5, rfl, by decide +kernel⟩
theorem fX7_30_X7 : vFld RX7 30 5 2 := ⟨RX7, TX7, 4, "HashTreeSigner$ShakeFamily", "", rfl, by decide, ivw_X7, Or.inl vw_119, Or.inr vw_120⟩
theorem fX7_30_X7p : vFldP RX7 30 5 2 .int := ⟨RX7, TX7, 4, "HashTreeSigner$ShakeFamily", "", tyX7, rfl, by decide, ivw_X7, Or.inl vw_119, Or.inr vw_120, tyX7_ok, nmX7, rfl, by decide +kernel⟩
theorem vw_145 : (Jvm.Cond.fieldLink "HashTreeSigner$Chains" (9 : Nat) "HashTreeSigner$Chains" "ends" "[B") ∈ vGW := vGW_at 145 (by decide +kernel) (by decide +kernel)
theorem fX1_9_X1 : vFld RX1 9 1 0 := ⟨RX1, TX1, 7, "HashTreeSigner$Chains", "", rfl, by decide, ivw_X1, Or.inl vw_145, Or.inl rfl⟩
theorem fX1_9_X1f : vFldF RX1 9 1 0 (.array .byte) := ⟨RX1, TX1, 7, "HashTreeSigner$Chains", "", tyX1, rfl, by decide, ivw_X1, Or.inl vw_145, Or.inl rfl, tyX1_ok, nmX1, rfl, rfl, by decide +kernel⟩
theorem vw_146 : (Jvm.Cond.fieldLink "HashTreeSigner$Trees" (173 : Nat) "HashTreeSigner$Chains" "ends" "[B") ∈ vGW := vGW_at 146 (by decide +kernel) (by decide +kernel)
theorem fX10_173_X1 : vFld RX10 173 1 0 := ⟨RX1, TX1, 7, "HashTreeSigner$Chains", "", rfl, by decide, ivw_X1, Or.inl vw_146, Or.inl rfl⟩
theorem vw_147 : (Jvm.Cond.fieldLink "HashTreeSigner$Chains" (13 : Nat) "HashTreeSigner$Chains" "first" "[I") ∈ vGW := vGW_at 147 (by decide +kernel) (by decide +kernel)
theorem fX1_13_X1 : vFld RX1 13 1 1 := ⟨RX1, TX1, 7, "HashTreeSigner$Chains", "", rfl, by decide, ivw_X1, Or.inl vw_147, Or.inl rfl⟩
theorem fX1_13_X1f : vFldF RX1 13 1 1 (.array .int) := ⟨RX1, TX1, 7, "HashTreeSigner$Chains", "", tyX1, rfl, by decide, ivw_X1, Or.inl vw_147, Or.inl rfl, tyX1_ok, nmX1, rfl, rfl, by decide +kernel⟩
theorem vw_148 : (Jvm.Cond.fieldLink "HashTreeSigner$Trees" (156 : Nat) "HashTreeSigner$Chains" "first" "[I") ∈ vGW := vGW_at 148 (by decide +kernel) (by decide +kernel)
theorem fX10_156_X1 : vFld RX10 156 1 1 := ⟨RX1, TX1, 7, "HashTreeSigner$Chains", "", rfl, by decide, ivw_X1, Or.inl vw_148, Or.inl rfl⟩
theorem vw_149 : (Jvm.Cond.fieldLink "HashTreeSigner$Chains" (17 : Nat) "HashTreeSigner$Chains" "digits" "[I") ∈ vGW := vGW_at 149 (by decide +kernel) (by decide +kernel)
theorem fX1_17_X1 : vFld RX1 17 1 2 := ⟨RX1, TX1, 7, "HashTreeSigner$Chains", "", rfl, by decide, ivw_X1, Or.inl vw_149, Or.inl rfl⟩
theorem fX1_17_X1f : vFldF RX1 17 1 2 (.array .int) := ⟨RX1, TX1, 7, "HashTreeSigner$Chains", "", tyX1, rfl, by decide, ivw_X1, Or.inl vw_149, Or.inl rfl, tyX1_ok, nmX1, rfl, rfl, by decide +kernel⟩
theorem vw_150 : (Jvm.Cond.fieldLink "HashTreeSigner$Trees" (160 : Nat) "HashTreeSigner$Chains" "digits" "[I") ∈ vGW := vGW_at 150 (by decide +kernel) (by decide +kernel)
theorem fX10_160_X1 : vFld RX10 160 1 2 := ⟨RX1, TX1, 7, "HashTreeSigner$Chains", "", rfl, by decide, ivw_X1, Or.inl vw_150, Or.inl rfl⟩
theorem vw_151 : (Jvm.Cond.fieldLink "HashTreeSigner$Chains" (20 : Nat) "HashTreeSigner$Chains" "last" "[I") ∈ vGW := vGW_at 151 (by decide +kernel) (by decide +kernel)
theorem fX1_20_X1 : vFld RX1 20 1 3 := ⟨RX1, TX1, 7, "HashTreeSigner$Chains", "", rfl, by decide, ivw_X1, Or.inl vw_151, Or.inl rfl⟩
theorem fX1_20_X1f : vFldF RX1 20 1 3 (.array .int) := ⟨RX1, TX1, 7, "HashTreeSigner$Chains", "", tyX1, rfl, by decide, ivw_X1, Or.inl vw_151, Or.inl rfl, tyX1_ok, nmX1, rfl, rfl, by decide +kernel⟩
theorem vw_152 : (Jvm.Cond.fieldLink "HashTreeSigner$Trees" (182 : Nat) "HashTreeSigner$Chains" "last" "[I") ∈ vGW := vGW_at 152 (by decide +kernel) (by decide +kernel)
theorem fX10_182_X1 : vFld RX10 182 1 3 := ⟨RX1, TX1, 7, "HashTreeSigner$Chains", "", rfl, by decide, ivw_X1, Or.inl vw_152, Or.inl rfl⟩
theorem vw_153 : (Jvm.Cond.fieldLink "HashTreeSigner$Chains" (30 : Nat) "HashTreeSigner$Chains" "family" "LHashTreeSigner$Family;") ∈ vGW := vGW_at 153 (by decide +kernel) (by decide +kernel)
theorem fX1_30_X1 : vFld RX1 30 1 4 := ⟨RX1, TX1, 7, "HashTreeSigner$Chains", "", rfl, by decide, ivw_X1, Or.inl vw_153, Or.inl rfl⟩
theorem fX1_30_X1f : vFldF RX1 30 1 4 (.object "HashTreeSigner$Family") := ⟨RX1, TX1, 7, "HashTreeSigner$Chains", "", tyX1, rfl, by decide, ivw_X1, Or.inl vw_153, Or.inl rfl, tyX1_ok, nmX1, rfl, rfl, by decide +kernel⟩
theorem vw_154 : (Jvm.Cond.fieldLink "HashTreeSigner$Chains" (23 : Nat) "HashTreeSigner$Chains" "n" "I") ∈ vGW := vGW_at 154 (by decide +kernel) (by decide +kernel)
theorem fX1_23_X1 : vFld RX1 23 1 5 := ⟨RX1, TX1, 7, "HashTreeSigner$Chains", "", rfl, by decide, ivw_X1, Or.inl vw_154, Or.inl rfl⟩
theorem fX1_23_X1p : vFldP RX1 23 1 5 .int := ⟨RX1, TX1, 7, "HashTreeSigner$Chains", "", tyX1, rfl, by decide, ivw_X1, Or.inl vw_154, Or.inl rfl, tyX1_ok, nmX1, rfl, by decide +kernel⟩
theorem vw_155 : (Jvm.Cond.fieldLink "HashTreeSigner$Chains" (27 : Nat) "HashTreeSigner$Chains" "count" "I") ∈ vGW := vGW_at 155 (by decide +kernel) (by decide +kernel)
theorem fX1_27_X1 : vFld RX1 27 1 6 := ⟨RX1, TX1, 7, "HashTreeSigner$Chains", "", rfl, by decide, ivw_X1, Or.inl vw_155, Or.inl rfl⟩
theorem fX1_27_X1p : vFldP RX1 27 1 6 .int := ⟨RX1, TX1, 7, "HashTreeSigner$Chains", "", tyX1, rfl, by decide, ivw_X1, Or.inl vw_155, Or.inl rfl, tyX1_ok, nmX1, rfl, by decide +kernel⟩
theorem vw_171 : (Jvm.Cond.fieldLink "HashTreeSigner$Trees" (7 : Nat) "HashTreeSigner$Trees" "x" "[B") ∈ vGW := vGW_at 171 (by decide +kernel) (by decide +kernel)
theorem fX10_7_X10 : vFld RX10 7 7 0 := ⟨RX10, TX10, 12, "HashTreeSigner$Trees", "", rfl, by decide, ivw_X10, Or.inl vw_171, Or.inl rfl⟩
theorem fX10_7_X10f : vFldF RX10 7 7 0 (.array .byte) := ⟨RX10, TX10, 12, "HashTreeSigner$Trees", "", tyX10, rfl, by decide, ivw_X10, Or.inl vw_171, Or.inl rfl, tyX10_ok, nmX10, rfl, rfl, by decide +kernel⟩
theorem vw_172 : (Jvm.Cond.fieldLink "HashTreeSigner" (185 : Nat) "HashTreeSigner$Trees" "x" "[B") ∈ vGW := vGW_at 172 (by decide +kernel) (by decide +kernel)
theorem fX11_185_X10 : vFld RX11 185 7 0 := ⟨RX10, TX10, 12, "HashTreeSigner$Trees", "", rfl, by decide, ivw_X10, Or.inl vw_172, Or.inl rfl⟩
theorem vw_173 : (Jvm.Cond.fieldLink "HashTreeSigner$Trees" (50 : Nat) "HashTreeSigner$Trees" "family" "LHashTreeSigner$Family;") ∈ vGW := vGW_at 173 (by decide +kernel) (by decide +kernel)
theorem fX10_50_X10 : vFld RX10 50 7 1 := ⟨RX10, TX10, 12, "HashTreeSigner$Trees", "", rfl, by decide, ivw_X10, Or.inl vw_173, Or.inl rfl⟩
theorem fX10_50_X10f : vFldF RX10 50 7 1 (.object "HashTreeSigner$Family") := ⟨RX10, TX10, 12, "HashTreeSigner$Trees", "", tyX10, rfl, by decide, ivw_X10, Or.inl vw_173, Or.inl rfl, tyX10_ok, nmX10, rfl, rfl, by decide +kernel⟩
theorem vw_174 : (Jvm.Cond.fieldLink "HashTreeSigner$Trees" (59 : Nat) "HashTreeSigner$Trees" "chains" "LHashTreeSigner$Chains;") ∈ vGW := vGW_at 174 (by decide +kernel) (by decide +kernel)
theorem fX10_59_X10 : vFld RX10 59 7 2 := ⟨RX10, TX10, 12, "HashTreeSigner$Trees", "", rfl, by decide, ivw_X10, Or.inl vw_174, Or.inl rfl⟩
theorem fX10_59_X10f : vFldF RX10 59 7 2 (.object "HashTreeSigner$Chains") := ⟨RX10, TX10, 12, "HashTreeSigner$Trees", "", tyX10, rfl, by decide, ivw_X10, Or.inl vw_174, Or.inl rfl, tyX10_ok, nmX10, rfl, rfl, by decide +kernel⟩
theorem vw_175 : (Jvm.Cond.fieldLink "HashTreeSigner$Trees" (13 : Nat) "HashTreeSigner$Trees" "digest" "[B") ∈ vGW := vGW_at 175 (by decide +kernel) (by decide +kernel)
theorem fX10_13_X10 : vFld RX10 13 7 3 := ⟨RX10, TX10, 12, "HashTreeSigner$Trees", "", rfl, by decide, ivw_X10, Or.inl vw_175, Or.inl rfl⟩
theorem fX10_13_X10f : vFldF RX10 13 7 3 (.array .byte) := ⟨RX10, TX10, 12, "HashTreeSigner$Trees", "", tyX10, rfl, by decide, ivw_X10, Or.inl vw_175, Or.inl rfl, tyX10_ok, nmX10, rfl, rfl, by decide +kernel⟩
theorem vw_176 : (Jvm.Cond.fieldLink "HashTreeSigner$Trees" (16 : Nat) "HashTreeSigner$Trees" "roots" "[B") ∈ vGW := vGW_at 176 (by decide +kernel) (by decide +kernel)
theorem fX10_16_X10 : vFld RX10 16 7 4 := ⟨RX10, TX10, 12, "HashTreeSigner$Trees", "", rfl, by decide, ivw_X10, Or.inl vw_176, Or.inl rfl⟩
theorem fX10_16_X10f : vFldF RX10 16 7 4 (.array .byte) := ⟨RX10, TX10, 12, "HashTreeSigner$Trees", "", tyX10, rfl, by decide, ivw_X10, Or.inl vw_176, Or.inl rfl, tyX10_ok, nmX10, rfl, rfl, by decide +kernel⟩
theorem vw_177 : (Jvm.Cond.fieldLink "HashTreeSigner$Trees" (19 : Nat) "HashTreeSigner$Trees" "pairs" "[B") ∈ vGW := vGW_at 177 (by decide +kernel) (by decide +kernel)
theorem fX10_19_X10 : vFld RX10 19 7 5 := ⟨RX10, TX10, 12, "HashTreeSigner$Trees", "", rfl, by decide, ivw_X10, Or.inl vw_177, Or.inl rfl⟩
theorem fX10_19_X10f : vFldF RX10 19 7 5 (.array .byte) := ⟨RX10, TX10, 12, "HashTreeSigner$Trees", "", tyX10, rfl, by decide, ivw_X10, Or.inl vw_177, Or.inl rfl, tyX10_ok, nmX10, rfl, rfl, by decide +kernel⟩
theorem vw_178 : (Jvm.Cond.fieldLink "HashTreeSigner$Trees" (28 : Nat) "HashTreeSigner$Trees" "sizes" "LHashTreeSigner$Sizes;") ∈ vGW := vGW_at 178 (by decide +kernel) (by decide +kernel)
theorem fX10_28_X10 : vFld RX10 28 7 6 := ⟨RX10, TX10, 12, "HashTreeSigner$Trees", "", rfl, by decide, ivw_X10, Or.inl vw_178, Or.inl rfl⟩
theorem fX10_28_X10p : vFldP RX10 28 7 6 (.object "HashTreeSigner$Sizes") := ⟨RX10, TX10, 12, "HashTreeSigner$Trees", "", tyX10, rfl, by decide, ivw_X10, Or.inl vw_178, Or.inl rfl, tyX10_ok, nmX10, rfl, by decide +kernel⟩
theorem vw_179 : (Jvm.Cond.fieldLink "HashTreeSigner$Trees" (31 : Nat) "HashTreeSigner$Trees" "n" "I") ∈ vGW := vGW_at 179 (by decide +kernel) (by decide +kernel)
theorem fX10_31_X10 : vFld RX10 31 7 7 := ⟨RX10, TX10, 12, "HashTreeSigner$Trees", "", rfl, by decide, ivw_X10, Or.inl vw_179, Or.inl rfl⟩
theorem fX10_31_X10p : vFldP RX10 31 7 7 .int := ⟨RX10, TX10, 12, "HashTreeSigner$Trees", "", tyX10, rfl, by decide, ivw_X10, Or.inl vw_179, Or.inl rfl, tyX10_ok, nmX10, rfl, by decide +kernel⟩
theorem vw_180 : (Jvm.Cond.fieldLink "HashTreeSigner$Trees" (35 : Nat) "HashTreeSigner$Trees" "tree" "J") ∈ vGW := vGW_at 180 (by decide +kernel) (by decide +kernel)
theorem fX10_35_X10 : vFld RX10 35 7 8 := ⟨RX10, TX10, 12, "HashTreeSigner$Trees", "", rfl, by decide, ivw_X10, Or.inl vw_180, Or.inl rfl⟩
theorem fX10_35_X10p : vFldP RX10 35 7 8 .long := ⟨RX10, TX10, 12, "HashTreeSigner$Trees", "", tyX10, rfl, by decide, ivw_X10, Or.inl vw_180, Or.inl rfl, tyX10_ok, nmX10, rfl, by decide +kernel⟩
theorem vw_181 : (Jvm.Cond.fieldLink "HashTreeSigner$Trees" (39 : Nat) "HashTreeSigner$Trees" "leaf" "I") ∈ vGW := vGW_at 181 (by decide +kernel) (by decide +kernel)
theorem fX10_39_X10 : vFld RX10 39 7 9 := ⟨RX10, TX10, 12, "HashTreeSigner$Trees", "", rfl, by decide, ivw_X10, Or.inl vw_181, Or.inl rfl⟩
theorem fX10_39_X10p : vFldP RX10 39 7 9 .int := ⟨RX10, TX10, 12, "HashTreeSigner$Trees", "", tyX10, rfl, by decide, ivw_X10, Or.inl vw_181, Or.inl rfl, tyX10_ok, nmX10, rfl, by decide +kernel⟩
theorem vw_182 : (Jvm.Cond.fieldLink "HashTreeSigner$Trees" (44 : Nat) "HashTreeSigner$Trees" "type" "I") ∈ vGW := vGW_at 182 (by decide +kernel) (by decide +kernel)
theorem fX10_44_X10 : vFld RX10 44 7 10 := ⟨RX10, TX10, 12, "HashTreeSigner$Trees", "", rfl, by decide, ivw_X10, Or.inl vw_182, Or.inl rfl⟩
theorem fX10_44_X10p : vFldP RX10 44 7 10 .int := ⟨RX10, TX10, 12, "HashTreeSigner$Trees", "", tyX10, rfl, by decide, ivw_X10, Or.inl vw_182, Or.inl rfl, tyX10_ok, nmX10, rfl, by decide +kernel⟩
theorem vw_183 : (Jvm.Cond.fieldLink "HashTreeSigner$Trees" (47 : Nat) "HashTreeSigner$Trees" "pair" "I") ∈ vGW := vGW_at 183 (by decide +kernel) (by decide +kernel)
theorem fX10_47_X10 : vFld RX10 47 7 11 := ⟨RX10, TX10, 12, "HashTreeSigner$Trees", "", rfl, by decide, ivw_X10, Or.inl vw_183, Or.inl rfl⟩
theorem fX10_47_X10p : vFldP RX10 47 7 11 .int := ⟨RX10, TX10, 12, "HashTreeSigner$Trees", "", tyX10, rfl, by decide, ivw_X10, Or.inl vw_183, Or.inl rfl, tyX10_ok, nmX10, rfl, by decide +kernel⟩
theorem vw_226 : (Jvm.Cond.fieldLink "HashTreeSigner$Sha256" (7 : Nat) "HashTreeSigner$Sha256" "w" "[I") ∈ vGW := vGW_at 226 (by decide +kernel) (by decide +kernel)
theorem fX4_7_X4 : vFld RX4 7 2 7 := ⟨RX4, TX4, 8, "HashTreeSigner$Sha256", "", rfl, by decide, ivw_X4, Or.inl vw_226, Or.inl rfl⟩
theorem fX4_7_X4f : vFldF RX4 7 2 7 (.array .int) := ⟨RX4, TX4, 8, "HashTreeSigner$Sha256", "", tyX4, rfl, by decide, ivw_X4, Or.inl vw_226, Or.inl rfl, tyX4_ok, nmX4, rfl, rfl, by decide +kernel⟩
theorem vw_227 : (Jvm.Cond.fieldLink "HashTreeSigner$Sha2" (27 : Nat) "HashTreeSigner$Sha2" "blockBytes" "I") ∈ vGW := vGW_at 227 (by decide +kernel) (by decide +kernel)
theorem fX3_27_X4 : vFld RX3 27 2 0 := ⟨RX4, TX4, 8, "HashTreeSigner$Sha2", "", rfl, by decide, ivw_X4, Or.inl vw_227, Or.inl rfl⟩
theorem fX3_27_X4f : vFldF RX3 27 2 0 .int := ⟨RX4, TX4, 8, "HashTreeSigner$Sha2", "", tyX4, rfl, by decide, ivw_X4, Or.inl vw_227, Or.inl rfl, tyX4_ok, nmX4, rfl, rfl, by decide +kernel⟩
theorem fX3_27_X6 : vFld RX3 27 4 0 := ⟨RX6, TX6, 8, "HashTreeSigner$Sha2", "", rfl, by decide, ivw_X6, Or.inl vw_227, Or.inl rfl⟩
theorem fX3_27_X6f : vFldF RX3 27 4 0 .int := ⟨RX6, TX6, 8, "HashTreeSigner$Sha2", "", tyX6, rfl, by decide, ivw_X6, Or.inl vw_227, Or.inl rfl, tyX6_ok, nmX6, rfl, rfl, by decide +kernel⟩
theorem vw_228 : (Jvm.Cond.fieldLink "HashTreeSigner$Sha2Family" (61 : Nat) "HashTreeSigner$Sha2" "blockBytes" "I") ∈ vGW := vGW_at 228 (by decide +kernel) (by decide +kernel)
theorem fX5_61_X4 : vFld RX5 61 2 0 := ⟨RX4, TX4, 8, "HashTreeSigner$Sha2", "", rfl, by decide, ivw_X4, Or.inl vw_228, Or.inl rfl⟩
theorem fX5_61_X6 : vFld RX5 61 4 0 := ⟨RX6, TX6, 8, "HashTreeSigner$Sha2", "", rfl, by decide, ivw_X6, Or.inl vw_228, Or.inl rfl⟩
theorem vw_229 : (Jvm.Cond.fieldLink "HashTreeSigner$Sha2" (30 : Nat) "HashTreeSigner$Sha2" "block" "[B") ∈ vGW := vGW_at 229 (by decide +kernel) (by decide +kernel)
theorem fX3_30_X4 : vFld RX3 30 2 1 := ⟨RX4, TX4, 8, "HashTreeSigner$Sha2", "", rfl, by decide, ivw_X4, Or.inl vw_229, Or.inl rfl⟩
theorem fX3_30_X4f : vFldF RX3 30 2 1 (.array .byte) := ⟨RX4, TX4, 8, "HashTreeSigner$Sha2", "", tyX4, rfl, by decide, ivw_X4, Or.inl vw_229, Or.inl rfl, tyX4_ok, nmX4, rfl, rfl, by decide +kernel⟩
theorem fX3_30_X6 : vFld RX3 30 4 1 := ⟨RX6, TX6, 8, "HashTreeSigner$Sha2", "", rfl, by decide, ivw_X6, Or.inl vw_229, Or.inl rfl⟩
theorem fX3_30_X6f : vFldF RX3 30 4 1 (.array .byte) := ⟨RX6, TX6, 8, "HashTreeSigner$Sha2", "", tyX6, rfl, by decide, ivw_X6, Or.inl vw_229, Or.inl rfl, tyX6_ok, nmX6, rfl, rfl, by decide +kernel⟩
theorem vw_231 : (Jvm.Cond.sameField "HashTreeSigner$Sha256" "HashTreeSigner$Sha2" "block" "[B") ∈ vGW := vGW_at 231 (by decide +kernel) (by decide +kernel)
theorem vw_230 : (Jvm.Cond.fieldLink "HashTreeSigner$Sha256" (13 : Nat) "HashTreeSigner$Sha256" "block" "[B") ∈ vGW := vGW_at 230 (by decide +kernel) (by decide +kernel)
theorem fX4_13_X4 : vFld RX4 13 2 1 := ⟨RX4, TX4, 8, "HashTreeSigner$Sha256", "", rfl, by decide, ivw_X4, Or.inl vw_230, Or.inr vw_231⟩
theorem fX4_13_X6 : vFld RX4 13 4 1 := ⟨RX6, TX6, 8, "HashTreeSigner$Sha256", "", rfl, by decide, ivw_X6, Or.inl vw_230, Or.inr vw_231⟩
theorem vw_233 : (Jvm.Cond.sameField "HashTreeSigner$Sha512" "HashTreeSigner$Sha2" "block" "[B") ∈ vGW := vGW_at 233 (by decide +kernel) (by decide +kernel)
theorem vw_232 : (Jvm.Cond.fieldLink "HashTreeSigner$Sha512" (13 : Nat) "HashTreeSigner$Sha512" "block" "[B") ∈ vGW := vGW_at 232 (by decide +kernel) (by decide +kernel)
theorem fX6_13_X4 : vFld RX6 13 2 1 := ⟨RX4, TX4, 8, "HashTreeSigner$Sha512", "", rfl, by decide, ivw_X4, Or.inl vw_232, Or.inr vw_233⟩
theorem fX6_13_X6 : vFld RX6 13 4 1 := ⟨RX6, TX6, 8, "HashTreeSigner$Sha512", "", rfl, by decide, ivw_X6, Or.inl vw_232, Or.inr vw_233⟩
theorem vw_234 : (Jvm.Cond.fieldLink "HashTreeSigner$Sha2" (7 : Nat) "HashTreeSigner$Sha2" "state" "[J") ∈ vGW := vGW_at 234 (by decide +kernel) (by decide +kernel)
theorem fX3_7_X4 : vFld RX3 7 2 2 := ⟨RX4, TX4, 8, "HashTreeSigner$Sha2", "", rfl, by decide, ivw_X4, Or.inl vw_234, Or.inl rfl⟩
theorem fX3_7_X4f : vFldF RX3 7 2 2 (.array .long) := ⟨RX4, TX4, 8, "HashTreeSigner$Sha2", "", tyX4, rfl, by decide, ivw_X4, Or.inl vw_234, Or.inl rfl, tyX4_ok, nmX4, rfl, rfl, by decide +kernel⟩
theorem fX3_7_X6 : vFld RX3 7 4 2 := ⟨RX6, TX6, 8, "HashTreeSigner$Sha2", "", rfl, by decide, ivw_X6, Or.inl vw_234, Or.inl rfl⟩
theorem fX3_7_X6f : vFldF RX3 7 4 2 (.array .long) := ⟨RX6, TX6, 8, "HashTreeSigner$Sha2", "", tyX6, rfl, by decide, ivw_X6, Or.inl vw_234, Or.inl rfl, tyX6_ok, nmX6, rfl, rfl, by decide +kernel⟩
theorem vw_236 : (Jvm.Cond.sameField "HashTreeSigner$Sha256" "HashTreeSigner$Sha2" "state" "[J") ∈ vGW := vGW_at 236 (by decide +kernel) (by decide +kernel)
theorem vw_235 : (Jvm.Cond.fieldLink "HashTreeSigner$Sha256" (23 : Nat) "HashTreeSigner$Sha256" "state" "[J") ∈ vGW := vGW_at 235 (by decide +kernel) (by decide +kernel)
theorem fX4_23_X4 : vFld RX4 23 2 2 := ⟨RX4, TX4, 8, "HashTreeSigner$Sha256", "", rfl, by decide, ivw_X4, Or.inl vw_235, Or.inr vw_236⟩
theorem fX4_23_X6 : vFld RX4 23 4 2 := ⟨RX6, TX6, 8, "HashTreeSigner$Sha256", "", rfl, by decide, ivw_X6, Or.inl vw_235, Or.inr vw_236⟩
theorem vw_238 : (Jvm.Cond.sameField "HashTreeSigner$Sha512" "HashTreeSigner$Sha2" "state" "[J") ∈ vGW := vGW_at 238 (by decide +kernel) (by decide +kernel)
theorem vw_237 : (Jvm.Cond.fieldLink "HashTreeSigner$Sha512" (23 : Nat) "HashTreeSigner$Sha512" "state" "[J") ∈ vGW := vGW_at 237 (by decide +kernel) (by decide +kernel)
theorem fX6_23_X4 : vFld RX6 23 2 2 := ⟨RX4, TX4, 8, "HashTreeSigner$Sha512", "", rfl, by decide, ivw_X4, Or.inl vw_237, Or.inr vw_238⟩
theorem fX6_23_X6 : vFld RX6 23 4 2 := ⟨RX6, TX6, 8, "HashTreeSigner$Sha512", "", rfl, by decide, ivw_X6, Or.inl vw_237, Or.inr vw_238⟩
theorem vw_239 : (Jvm.Cond.fieldLink "HashTreeSigner$Sha2" (24 : Nat) "HashTreeSigner$Sha2" "wordShift" "I") ∈ vGW := vGW_at 239 (by decide +kernel) (by decide +kernel)
theorem fX3_24_X4 : vFld RX3 24 2 3 := ⟨RX4, TX4, 8, "HashTreeSigner$Sha2", "", rfl, by decide, ivw_X4, Or.inl vw_239, Or.inl rfl⟩
theorem fX3_24_X4f : vFldF RX3 24 2 3 .int := ⟨RX4, TX4, 8, "HashTreeSigner$Sha2", "", tyX4, rfl, by decide, ivw_X4, Or.inl vw_239, Or.inl rfl, tyX4_ok, nmX4, rfl, rfl, by decide +kernel⟩
theorem fX3_24_X6 : vFld RX3 24 4 3 := ⟨RX6, TX6, 8, "HashTreeSigner$Sha2", "", rfl, by decide, ivw_X6, Or.inl vw_239, Or.inl rfl⟩
theorem fX3_24_X6f : vFldF RX3 24 4 3 .int := ⟨RX6, TX6, 8, "HashTreeSigner$Sha2", "", tyX6, rfl, by decide, ivw_X6, Or.inl vw_239, Or.inl rfl, tyX6_ok, nmX6, rfl, rfl, by decide +kernel⟩
theorem vw_240 : (Jvm.Cond.fieldLink "HashTreeSigner$Sha2" (13 : Nat) "HashTreeSigner$Sha2" "kept" "[J") ∈ vGW := vGW_at 240 (by decide +kernel) (by decide +kernel)
theorem fX3_13_X4 : vFld RX3 13 2 4 := ⟨RX4, TX4, 8, "HashTreeSigner$Sha2", "", rfl, by decide, ivw_X4, Or.inl vw_240, Or.inl rfl⟩
theorem fX3_13_X4f : vFldF RX3 13 2 4 (.array .long) := ⟨RX4, TX4, 8, "HashTreeSigner$Sha2", "", tyX4, rfl, by decide, ivw_X4, Or.inl vw_240, Or.inl rfl, tyX4_ok, nmX4, rfl, rfl, by decide +kernel⟩
theorem fX3_13_X6 : vFld RX3 13 4 4 := ⟨RX6, TX6, 8, "HashTreeSigner$Sha2", "", rfl, by decide, ivw_X6, Or.inl vw_240, Or.inl rfl⟩
theorem fX3_13_X6f : vFldF RX3 13 4 4 (.array .long) := ⟨RX6, TX6, 8, "HashTreeSigner$Sha2", "", tyX6, rfl, by decide, ivw_X6, Or.inl vw_240, Or.inl rfl, tyX6_ok, nmX6, rfl, rfl, by decide +kernel⟩
theorem vw_241 : (Jvm.Cond.fieldLink "HashTreeSigner$Sha2" (16 : Nat) "HashTreeSigner$Sha2" "fill" "I") ∈ vGW := vGW_at 241 (by decide +kernel) (by decide +kernel)
theorem fX3_16_X4 : vFld RX3 16 2 5 := ⟨RX4, TX4, 8, "HashTreeSigner$Sha2", "", rfl, by decide, ivw_X4, Or.inl vw_241, Or.inl rfl⟩
theorem fX3_16_X4p : vFldP RX3 16 2 5 .int := ⟨RX4, TX4, 8, "HashTreeSigner$Sha2", "", tyX4, rfl, by decide, ivw_X4, Or.inl vw_241, Or.inl rfl, tyX4_ok, nmX4, rfl, by decide +kernel⟩
theorem fX3_16_X6 : vFld RX3 16 4 5 := ⟨RX6, TX6, 8, "HashTreeSigner$Sha2", "", rfl, by decide, ivw_X6, Or.inl vw_241, Or.inl rfl⟩
theorem fX3_16_X6p : vFldP RX3 16 4 5 .int := ⟨RX6, TX6, 8, "HashTreeSigner$Sha2", "", tyX6, rfl, by decide, ivw_X6, Or.inl vw_241, Or.inl rfl, tyX6_ok, nmX6, rfl, by decide +kernel⟩
theorem vw_242 : (Jvm.Cond.fieldLink "HashTreeSigner$Sha2" (20 : Nat) "HashTreeSigner$Sha2" "total" "J") ∈ vGW := vGW_at 242 (by decide +kernel) (by decide +kernel)
theorem fX3_20_X4 : vFld RX3 20 2 6 := ⟨RX4, TX4, 8, "HashTreeSigner$Sha2", "", rfl, by decide, ivw_X4, Or.inl vw_242, Or.inl rfl⟩
theorem fX3_20_X4p : vFldP RX3 20 2 6 .long := ⟨RX4, TX4, 8, "HashTreeSigner$Sha2", "", tyX4, rfl, by decide, ivw_X4, Or.inl vw_242, Or.inl rfl, tyX4_ok, nmX4, rfl, by decide +kernel⟩
theorem fX3_20_X6 : vFld RX3 20 4 6 := ⟨RX6, TX6, 8, "HashTreeSigner$Sha2", "", rfl, by decide, ivw_X6, Or.inl vw_242, Or.inl rfl⟩
theorem fX3_20_X6p : vFldP RX3 20 4 6 .long := ⟨RX6, TX6, 8, "HashTreeSigner$Sha2", "", tyX6, rfl, by decide, ivw_X6, Or.inl vw_242, Or.inl rfl, tyX6_ok, nmX6, rfl, by decide +kernel⟩
theorem vw_266 : (Jvm.Cond.fieldLink "HashTreeSigner$Sha512" (7 : Nat) "HashTreeSigner$Sha512" "w" "[J") ∈ vGW := vGW_at 266 (by decide +kernel) (by decide +kernel)
theorem fX6_7_X6 : vFld RX6 7 4 7 := ⟨RX6, TX6, 8, "HashTreeSigner$Sha512", "", rfl, by decide, ivw_X6, Or.inl vw_266, Or.inl rfl⟩
theorem fX6_7_X6f : vFldF RX6 7 4 7 (.array .long) := ⟨RX6, TX6, 8, "HashTreeSigner$Sha512", "", tyX6, rfl, by decide, ivw_X6, Or.inl vw_266, Or.inl rfl, tyX6_ok, nmX6, rfl, rfl, by decide +kernel⟩
theorem vw_277 : (Jvm.Cond.fieldLink "HashTreeSigner$Sha2Family" (17 : Nat) "HashTreeSigner$Sha2Family" "narrow" "LHashTreeSigner$Sha2;") ∈ vGW := vGW_at 277 (by decide +kernel) (by decide +kernel)
theorem fX5_17_X5 : vFld RX5 17 3 3 := ⟨RX5, TX5, 8, "HashTreeSigner$Sha2Family", "", rfl, by decide, ivw_X5, Or.inl vw_277, Or.inl rfl⟩
theorem fX5_17_X5f : vFldF RX5 17 3 3 (.object "HashTreeSigner$Sha2") := ⟨RX5, TX5, 8, "HashTreeSigner$Sha2Family", "", tyX5, rfl, by decide, ivw_X5, Or.inl vw_277, Or.inl rfl, tyX5_ok, nmX5, rfl, rfl, by decide +kernel⟩
theorem vw_278 : (Jvm.Cond.fieldLink "HashTreeSigner$Sha2Family" (26 : Nat) "HashTreeSigner$Sha2Family" "wide" "LHashTreeSigner$Sha2;") ∈ vGW := vGW_at 278 (by decide +kernel) (by decide +kernel)
theorem fX5_26_X5 : vFld RX5 26 3 4 := ⟨RX5, TX5, 8, "HashTreeSigner$Sha2Family", "", rfl, by decide, ivw_X5, Or.inl vw_278, Or.inl rfl⟩
theorem fX5_26_X5f : vFldF RX5 26 3 4 (.object "HashTreeSigner$Sha2") := ⟨RX5, TX5, 8, "HashTreeSigner$Sha2Family", "", tyX5, rfl, by decide, ivw_X5, Or.inl vw_278, Or.inl rfl, tyX5_ok, nmX5, rfl, rfl, by decide +kernel⟩
theorem vw_279 : (Jvm.Cond.fieldLink "HashTreeSigner$Sha2Family" (29 : Nat) "HashTreeSigner$Sha2Family" "pad" "[B") ∈ vGW := vGW_at 279 (by decide +kernel) (by decide +kernel)
theorem fX5_29_X5 : vFld RX5 29 3 5 := ⟨RX5, TX5, 8, "HashTreeSigner$Sha2Family", "", rfl, by decide, ivw_X5, Or.inl vw_279, Or.inl rfl⟩
theorem fX5_29_X5f : vFldF RX5 29 3 5 (.array .byte) := ⟨RX5, TX5, 8, "HashTreeSigner$Sha2Family", "", tyX5, rfl, by decide, ivw_X5, Or.inl vw_279, Or.inl rfl, tyX5_ok, nmX5, rfl, rfl, by decide +kernel⟩
theorem vw_280 : (Jvm.Cond.fieldLink "HashTreeSigner$Sha2Family" (33 : Nat) "HashTreeSigner$Sha2Family" "inner" "[B") ∈ vGW := vGW_at 280 (by decide +kernel) (by decide +kernel)
theorem fX5_33_X5 : vFld RX5 33 3 6 := ⟨RX5, TX5, 8, "HashTreeSigner$Sha2Family", "", rfl, by decide, ivw_X5, Or.inl vw_280, Or.inl rfl⟩
theorem fX5_33_X5f : vFldF RX5 33 3 6 (.array .byte) := ⟨RX5, TX5, 8, "HashTreeSigner$Sha2Family", "", tyX5, rfl, by decide, ivw_X5, Or.inl vw_280, Or.inl rfl, tyX5_ok, nmX5, rfl, rfl, by decide +kernel⟩
theorem vw_281 : (Jvm.Cond.fieldLink "HashTreeSigner$Sha2Family" (36 : Nat) "HashTreeSigner$Sha2Family" "counter" "[B") ∈ vGW := vGW_at 281 (by decide +kernel) (by decide +kernel)
theorem fX5_36_X5 : vFld RX5 36 3 7 := ⟨RX5, TX5, 8, "HashTreeSigner$Sha2Family", "", rfl, by decide, ivw_X5, Or.inl vw_281, Or.inl rfl⟩
theorem fX5_36_X5f : vFldF RX5 36 3 7 (.array .byte) := ⟨RX5, TX5, 8, "HashTreeSigner$Sha2Family", "", tyX5, rfl, by decide, ivw_X5, Or.inl vw_281, Or.inl rfl, tyX5_ok, nmX5, rfl, rfl, by decide +kernel⟩
theorem vw_296 : (Jvm.Cond.fieldLink "HashTreeSigner" (12 : Nat) "HashTreeSigner" "slots" "[[B") ∈ vGW := vGW_at 296 (by decide +kernel) (by decide +kernel)
theorem fX11_12_X11 : vFld RX11 12 8 0 := ⟨RX11, TX11, 8, "HashTreeSigner", "", rfl, by decide, ivw_X11, Or.inl vw_296, Or.inl rfl⟩
theorem fX11_12_X11f : vFldF RX11 12 8 0 (.array (.array .byte)) := ⟨RX11, TX11, 8, "HashTreeSigner", "", tyX11, rfl, by decide, ivw_X11, Or.inl vw_296, Or.inl rfl, tyX11_ok, nmX11, rfl, rfl, by decide +kernel⟩
theorem vw_297 : (Jvm.Cond.fieldLink "HashTreeSigner" (15 : Nat) "HashTreeSigner" "lengths" "[I") ∈ vGW := vGW_at 297 (by decide +kernel) (by decide +kernel)
theorem fX11_15_X11 : vFld RX11 15 8 1 := ⟨RX11, TX11, 8, "HashTreeSigner", "", rfl, by decide, ivw_X11, Or.inl vw_297, Or.inl rfl⟩
theorem fX11_15_X11f : vFldF RX11 15 8 1 (.array .int) := ⟨RX11, TX11, 8, "HashTreeSigner", "", tyX11, rfl, by decide, ivw_X11, Or.inl vw_297, Or.inl rfl, tyX11_ok, nmX11, rfl, rfl, by decide +kernel⟩
theorem vw_298 : (Jvm.Cond.fieldLink "HashTreeSigner" (19 : Nat) "HashTreeSigner" "tape" "[B") ∈ vGW := vGW_at 298 (by decide +kernel) (by decide +kernel)
theorem fX11_19_X11 : vFld RX11 19 8 2 := ⟨RX11, TX11, 8, "HashTreeSigner", "", rfl, by decide, ivw_X11, Or.inl vw_298, Or.inl rfl⟩
theorem fX11_19_X11f : vFldF RX11 19 8 2 (.array .byte) := ⟨RX11, TX11, 8, "HashTreeSigner", "", tyX11, rfl, by decide, ivw_X11, Or.inl vw_298, Or.inl rfl, tyX11_ok, nmX11, rfl, rfl, by decide +kernel⟩
theorem vw_299 : (Jvm.Cond.fieldLink "HashTreeSigner" (23 : Nat) "HashTreeSigner" "tapeLength" "I") ∈ vGW := vGW_at 299 (by decide +kernel) (by decide +kernel)
theorem fX11_23_X11 : vFld RX11 23 8 3 := ⟨RX11, TX11, 8, "HashTreeSigner", "", rfl, by decide, ivw_X11, Or.inl vw_299, Or.inl rfl⟩
theorem fX11_23_X11p : vFldP RX11 23 8 3 .int := ⟨RX11, TX11, 8, "HashTreeSigner", "", tyX11, rfl, by decide, ivw_X11, Or.inl vw_299, Or.inl rfl, tyX11_ok, nmX11, rfl, by decide +kernel⟩
theorem vw_300 : (Jvm.Cond.fieldLink "HashTreeSigner" (28 : Nat) "HashTreeSigner" "signed" "[B") ∈ vGW := vGW_at 300 (by decide +kernel) (by decide +kernel)
theorem fX11_28_X11 : vFld RX11 28 8 4 := ⟨RX11, TX11, 8, "HashTreeSigner", "", rfl, by decide, ivw_X11, Or.inl vw_300, Or.inl rfl⟩
theorem fX11_28_X11f : vFldF RX11 28 8 4 (.array .byte) := ⟨RX11, TX11, 8, "HashTreeSigner", "", tyX11, rfl, by decide, ivw_X11, Or.inl vw_300, Or.inl rfl, tyX11_ok, nmX11, rfl, rfl, by decide +kernel⟩
theorem vw_301 : (Jvm.Cond.fieldLink "HashTreeSigner" (31 : Nat) "HashTreeSigner" "signedLength" "I") ∈ vGW := vGW_at 301 (by decide +kernel) (by decide +kernel)
theorem fX11_31_X11 : vFld RX11 31 8 5 := ⟨RX11, TX11, 8, "HashTreeSigner", "", rfl, by decide, ivw_X11, Or.inl vw_301, Or.inl rfl⟩
theorem fX11_31_X11p : vFldP RX11 31 8 5 .int := ⟨RX11, TX11, 8, "HashTreeSigner", "", tyX11, rfl, by decide, ivw_X11, Or.inl vw_301, Or.inl rfl, tyX11_ok, nmX11, rfl, by decide +kernel⟩
theorem vw_302 : (Jvm.Cond.fieldLink "HashTreeSigner" (42 : Nat) "HashTreeSigner" "shakeTrees" "LHashTreeSigner$Trees;") ∈ vGW := vGW_at 302 (by decide +kernel) (by decide +kernel)
theorem fX11_42_X11 : vFld RX11 42 8 6 := ⟨RX11, TX11, 8, "HashTreeSigner", "", rfl, by decide, ivw_X11, Or.inl vw_302, Or.inl rfl⟩
theorem fX11_42_X11f : vFldF RX11 42 8 6 (.object "HashTreeSigner$Trees") := ⟨RX11, TX11, 8, "HashTreeSigner", "", tyX11, rfl, by decide, ivw_X11, Or.inl vw_302, Or.inl rfl, tyX11_ok, nmX11, rfl, rfl, by decide +kernel⟩
theorem vw_303 : (Jvm.Cond.fieldLink "HashTreeSigner" (49 : Nat) "HashTreeSigner" "sha2Trees" "LHashTreeSigner$Trees;") ∈ vGW := vGW_at 303 (by decide +kernel) (by decide +kernel)
theorem fX11_49_X11 : vFld RX11 49 8 7 := ⟨RX11, TX11, 8, "HashTreeSigner", "", rfl, by decide, ivw_X11, Or.inl vw_303, Or.inl rfl⟩
theorem fX11_49_X11f : vFldF RX11 49 8 7 (.object "HashTreeSigner$Trees") := ⟨RX11, TX11, 8, "HashTreeSigner", "", tyX11, rfl, by decide, ivw_X11, Or.inl vw_303, Or.inl rfl, tyX11_ok, nmX11, rfl, rfl, by decide +kernel⟩
theorem vw_1174 : (Jvm.Cond.fieldLink "HashTreeSignerModel" (10 : Nat) "HashTreeSignerModel" "tape" "[B") ∈ vGW := vGW_at 1174 (by decide +kernel) (by decide +kernel)
theorem fX12_10_X12 : vFld RX12 10 9 0 := ⟨RX12, TX12, 49, "HashTreeSignerModel", "", rfl, by decide, ivw_X12, Or.inl vw_1174, Or.inl rfl⟩
theorem fX12_10_X12f : vFldF RX12 10 9 0 (.array .byte) := ⟨RX12, TX12, 49, "HashTreeSignerModel", "", tyX12, rfl, by decide, ivw_X12, Or.inl vw_1174, Or.inl rfl, tyX12_ok, nmX12, rfl, rfl, by decide +kernel⟩
theorem vw_1175 : (Jvm.Cond.fieldLink "HashTreeSignerModel" (16 : Nat) "HashTreeSignerModel" "slot" "[[B") ∈ vGW := vGW_at 1175 (by decide +kernel) (by decide +kernel)
theorem fX12_16_X12 : vFld RX12 16 9 1 := ⟨RX12, TX12, 49, "HashTreeSignerModel", "", rfl, by decide, ivw_X12, Or.inl vw_1175, Or.inl rfl⟩
theorem fX12_16_X12f : vFldF RX12 16 9 1 (.array (.array .byte)) := ⟨RX12, TX12, 49, "HashTreeSignerModel", "", tyX12, rfl, by decide, ivw_X12, Or.inl vw_1175, Or.inl rfl, tyX12_ok, nmX12, rfl, rfl, by decide +kernel⟩
theorem vw_1176 : (Jvm.Cond.fieldLink "HashTreeSignerModel" (19 : Nat) "HashTreeSignerModel" "length" "[I") ∈ vGW := vGW_at 1176 (by decide +kernel) (by decide +kernel)
theorem fX12_19_X12 : vFld RX12 19 9 2 := ⟨RX12, TX12, 49, "HashTreeSignerModel", "", rfl, by decide, ivw_X12, Or.inl vw_1176, Or.inl rfl⟩
theorem fX12_19_X12f : vFldF RX12 19 9 2 (.array .int) := ⟨RX12, TX12, 49, "HashTreeSignerModel", "", tyX12, rfl, by decide, ivw_X12, Or.inl vw_1176, Or.inl rfl, tyX12_ok, nmX12, rfl, rfl, by decide +kernel⟩
theorem vw_1177 : (Jvm.Cond.fieldLink "HashTreeSignerModel" (127 : Nat) "HashTreeSignerModel" "taped" "I") ∈ vGW := vGW_at 1177 (by decide +kernel) (by decide +kernel)
theorem fX12_127_X12 : vFld RX12 127 9 3 := ⟨RX12, TX12, 49, "HashTreeSignerModel", "", rfl, by decide, ivw_X12, Or.inl vw_1177, Or.inl rfl⟩
theorem fX12_127_X12p : vFldP RX12 127 9 3 .int := ⟨RX12, TX12, 49, "HashTreeSignerModel", "", tyX12, rfl, by decide, ivw_X12, Or.inl vw_1177, Or.inl rfl, tyX12_ok, nmX12, rfl, by decide +kernel⟩
theorem vw_1178 : (Jvm.Cond.fieldLink "HashTreeSignerModel" (123 : Nat) "HashTreeSignerModel" "code" "I") ∈ vGW := vGW_at 1178 (by decide +kernel) (by decide +kernel)
theorem fX12_123_X12 : vFld RX12 123 9 4 := ⟨RX12, TX12, 49, "HashTreeSignerModel", "", rfl, by decide, ivw_X12, Or.inl vw_1178, Or.inl rfl⟩
theorem fX12_123_X12p : vFldP RX12 123 9 4 .int := ⟨RX12, TX12, 49, "HashTreeSignerModel", "", tyX12, rfl, by decide, ivw_X12, Or.inl vw_1178, Or.inl rfl, tyX12_ok, nmX12, rfl, by decide +kernel⟩
theorem vw_1179 : (Jvm.Cond.fieldLink "HashTreeSignerModel" (23 : Nat) "HashTreeSignerModel" "roots" "[J") ∈ vGW := vGW_at 1179 (by decide +kernel) (by decide +kernel)
theorem fX12_23_X12 : vFld RX12 23 9 5 := ⟨RX12, TX12, 49, "HashTreeSignerModel", "", rfl, by decide, ivw_X12, Or.inl vw_1179, Or.inl rfl⟩
theorem fX12_23_X12f : vFldF RX12 23 9 5 (.array .long) := ⟨RX12, TX12, 49, "HashTreeSignerModel", "", tyX12, rfl, by decide, ivw_X12, Or.inl vw_1179, Or.inl rfl, tyX12_ok, nmX12, rfl, rfl, by decide +kernel⟩
theorem vw_1180 : (Jvm.Cond.fieldLink "HashTreeSignerModel" (27 : Nat) "HashTreeSignerModel" "cubes" "[J") ∈ vGW := vGW_at 1180 (by decide +kernel) (by decide +kernel)
theorem fX12_27_X12 : vFld RX12 27 9 6 := ⟨RX12, TX12, 49, "HashTreeSignerModel", "", rfl, by decide, ivw_X12, Or.inl vw_1180, Or.inl rfl⟩
theorem fX12_27_X12f : vFldF RX12 27 9 6 (.array .long) := ⟨RX12, TX12, 49, "HashTreeSignerModel", "", tyX12, rfl, by decide, ivw_X12, Or.inl vw_1180, Or.inl rfl, tyX12_ok, nmX12, rfl, rfl, by decide +kernel⟩
theorem vw_1181 : (Jvm.Cond.fieldLink "HashTreeSignerModel" (30 : Nat) "HashTreeSignerModel" "start224" "[J") ∈ vGW := vGW_at 1181 (by decide +kernel) (by decide +kernel)
theorem fX12_30_X12 : vFld RX12 30 9 7 := ⟨RX12, TX12, 49, "HashTreeSignerModel", "", rfl, by decide, ivw_X12, Or.inl vw_1181, Or.inl rfl⟩
theorem fX12_30_X12f : vFldF RX12 30 9 7 (.array .long) := ⟨RX12, TX12, 49, "HashTreeSignerModel", "", tyX12, rfl, by decide, ivw_X12, Or.inl vw_1181, Or.inl rfl, tyX12_ok, nmX12, rfl, rfl, by decide +kernel⟩
theorem vw_1182 : (Jvm.Cond.fieldLink "HashTreeSignerModel" (33 : Nat) "HashTreeSignerModel" "start256" "[J") ∈ vGW := vGW_at 1182 (by decide +kernel) (by decide +kernel)
theorem fX12_33_X12 : vFld RX12 33 9 8 := ⟨RX12, TX12, 49, "HashTreeSignerModel", "", rfl, by decide, ivw_X12, Or.inl vw_1182, Or.inl rfl⟩
theorem fX12_33_X12f : vFldF RX12 33 9 8 (.array .long) := ⟨RX12, TX12, 49, "HashTreeSignerModel", "", tyX12, rfl, by decide, ivw_X12, Or.inl vw_1182, Or.inl rfl, tyX12_ok, nmX12, rfl, rfl, by decide +kernel⟩
theorem vw_1183 : (Jvm.Cond.fieldLink "HashTreeSignerModel" (36 : Nat) "HashTreeSignerModel" "limbs" "[J") ∈ vGW := vGW_at 1183 (by decide +kernel) (by decide +kernel)
theorem fX12_36_X12 : vFld RX12 36 9 9 := ⟨RX12, TX12, 49, "HashTreeSignerModel", "", rfl, by decide, ivw_X12, Or.inl vw_1183, Or.inl rfl⟩
theorem fX12_36_X12f : vFldF RX12 36 9 9 (.array .long) := ⟨RX12, TX12, 49, "HashTreeSignerModel", "", tyX12, rfl, by decide, ivw_X12, Or.inl vw_1183, Or.inl rfl, tyX12_ok, nmX12, rfl, rfl, by decide +kernel⟩
theorem vw_1184 : (Jvm.Cond.fieldLink "HashTreeSignerModel" (39 : Nat) "HashTreeSignerModel" "product" "[J") ∈ vGW := vGW_at 1184 (by decide +kernel) (by decide +kernel)
theorem fX12_39_X12 : vFld RX12 39 9 10 := ⟨RX12, TX12, 49, "HashTreeSignerModel", "", rfl, by decide, ivw_X12, Or.inl vw_1184, Or.inl rfl⟩
theorem fX12_39_X12f : vFldF RX12 39 9 10 (.array .long) := ⟨RX12, TX12, 49, "HashTreeSignerModel", "", tyX12, rfl, by decide, ivw_X12, Or.inl vw_1184, Or.inl rfl, tyX12_ok, nmX12, rfl, rfl, by decide +kernel⟩
theorem vw_1185 : (Jvm.Cond.fieldLink "HashTreeSignerModel" (42 : Nat) "HashTreeSignerModel" "turns" "[I") ∈ vGW := vGW_at 1185 (by decide +kernel) (by decide +kernel)
theorem fX12_42_X12 : vFld RX12 42 9 11 := ⟨RX12, TX12, 49, "HashTreeSignerModel", "", rfl, by decide, ivw_X12, Or.inl vw_1185, Or.inl rfl⟩
theorem fX12_42_X12f : vFldF RX12 42 9 11 (.array .int) := ⟨RX12, TX12, 49, "HashTreeSignerModel", "", tyX12, rfl, by decide, ivw_X12, Or.inl vw_1185, Or.inl rfl, tyX12_ok, nmX12, rfl, rfl, by decide +kernel⟩
theorem vw_1186 : (Jvm.Cond.fieldLink "HashTreeSignerModel" (45 : Nat) "HashTreeSignerModel" "round" "[J") ∈ vGW := vGW_at 1186 (by decide +kernel) (by decide +kernel)
theorem fX12_45_X12 : vFld RX12 45 9 12 := ⟨RX12, TX12, 49, "HashTreeSignerModel", "", rfl, by decide, ivw_X12, Or.inl vw_1186, Or.inl rfl⟩
theorem fX12_45_X12f : vFldF RX12 45 9 12 (.array .long) := ⟨RX12, TX12, 49, "HashTreeSignerModel", "", tyX12, rfl, by decide, ivw_X12, Or.inl vw_1186, Or.inl rfl, tyX12_ok, nmX12, rfl, rfl, by decide +kernel⟩
theorem vw_1187 : (Jvm.Cond.fieldLink "HashTreeSignerModel" (48 : Nat) "HashTreeSignerModel" "state" "[J") ∈ vGW := vGW_at 1187 (by decide +kernel) (by decide +kernel)
theorem fX12_48_X12 : vFld RX12 48 9 13 := ⟨RX12, TX12, 49, "HashTreeSignerModel", "", rfl, by decide, ivw_X12, Or.inl vw_1187, Or.inl rfl⟩
theorem fX12_48_X12f : vFldF RX12 48 9 13 (.array .long) := ⟨RX12, TX12, 49, "HashTreeSignerModel", "", tyX12, rfl, by decide, ivw_X12, Or.inl vw_1187, Or.inl rfl, tyX12_ok, nmX12, rfl, rfl, by decide +kernel⟩
theorem vw_1188 : (Jvm.Cond.fieldLink "HashTreeSignerModel" (51 : Nat) "HashTreeSignerModel" "other" "[J") ∈ vGW := vGW_at 1188 (by decide +kernel) (by decide +kernel)
theorem fX12_51_X12 : vFld RX12 51 9 14 := ⟨RX12, TX12, 49, "HashTreeSignerModel", "", rfl, by decide, ivw_X12, Or.inl vw_1188, Or.inl rfl⟩
theorem fX12_51_X12f : vFldF RX12 51 9 14 (.array .long) := ⟨RX12, TX12, 49, "HashTreeSignerModel", "", tyX12, rfl, by decide, ivw_X12, Or.inl vw_1188, Or.inl rfl, tyX12_ok, nmX12, rfl, rfl, by decide +kernel⟩
theorem vw_1189 : (Jvm.Cond.fieldLink "HashTreeSignerModel" (54 : Nat) "HashTreeSignerModel" "column" "[J") ∈ vGW := vGW_at 1189 (by decide +kernel) (by decide +kernel)
theorem fX12_54_X12 : vFld RX12 54 9 15 := ⟨RX12, TX12, 49, "HashTreeSignerModel", "", rfl, by decide, ivw_X12, Or.inl vw_1189, Or.inl rfl⟩
theorem fX12_54_X12f : vFldF RX12 54 9 15 (.array .long) := ⟨RX12, TX12, 49, "HashTreeSignerModel", "", tyX12, rfl, by decide, ivw_X12, Or.inl vw_1189, Or.inl rfl, tyX12_ok, nmX12, rfl, rfl, by decide +kernel⟩
theorem vw_1190 : (Jvm.Cond.fieldLink "HashTreeSignerModel" (57 : Nat) "HashTreeSignerModel" "words" "[J") ∈ vGW := vGW_at 1190 (by decide +kernel) (by decide +kernel)
theorem fX12_57_X12 : vFld RX12 57 9 16 := ⟨RX12, TX12, 49, "HashTreeSignerModel", "", rfl, by decide, ivw_X12, Or.inl vw_1190, Or.inl rfl⟩
theorem fX12_57_X12f : vFldF RX12 57 9 16 (.array .long) := ⟨RX12, TX12, 49, "HashTreeSignerModel", "", tyX12, rfl, by decide, ivw_X12, Or.inl vw_1190, Or.inl rfl, tyX12_ok, nmX12, rfl, rfl, by decide +kernel⟩
theorem vw_1191 : (Jvm.Cond.fieldLink "HashTreeSignerModel" (60 : Nat) "HashTreeSignerModel" "block" "[B") ∈ vGW := vGW_at 1191 (by decide +kernel) (by decide +kernel)
theorem fX12_60_X12 : vFld RX12 60 9 17 := ⟨RX12, TX12, 49, "HashTreeSignerModel", "", rfl, by decide, ivw_X12, Or.inl vw_1191, Or.inl rfl⟩
theorem fX12_60_X12f : vFldF RX12 60 9 17 (.array .byte) := ⟨RX12, TX12, 49, "HashTreeSignerModel", "", tyX12, rfl, by decide, ivw_X12, Or.inl vw_1191, Or.inl rfl, tyX12_ok, nmX12, rfl, rfl, by decide +kernel⟩
theorem vw_1192 : (Jvm.Cond.fieldLink "HashTreeSignerModel" (177 : Nat) "HashTreeSignerModel" "kind" "I") ∈ vGW := vGW_at 1192 (by decide +kernel) (by decide +kernel)
theorem fX12_177_X12 : vFld RX12 177 9 18 := ⟨RX12, TX12, 49, "HashTreeSignerModel", "", rfl, by decide, ivw_X12, Or.inl vw_1192, Or.inl rfl⟩
theorem fX12_177_X12p : vFldP RX12 177 9 18 .int := ⟨RX12, TX12, 49, "HashTreeSignerModel", "", tyX12, rfl, by decide, ivw_X12, Or.inl vw_1192, Or.inl rfl, tyX12_ok, nmX12, rfl, by decide +kernel⟩
theorem vw_1193 : (Jvm.Cond.fieldLink "HashTreeSignerModel" (193 : Nat) "HashTreeSignerModel" "rate" "I") ∈ vGW := vGW_at 1193 (by decide +kernel) (by decide +kernel)
theorem fX12_193_X12 : vFld RX12 193 9 19 := ⟨RX12, TX12, 49, "HashTreeSignerModel", "", rfl, by decide, ivw_X12, Or.inl vw_1193, Or.inl rfl⟩
theorem fX12_193_X12p : vFldP RX12 193 9 19 .int := ⟨RX12, TX12, 49, "HashTreeSignerModel", "", tyX12, rfl, by decide, ivw_X12, Or.inl vw_1193, Or.inl rfl, tyX12_ok, nmX12, rfl, by decide +kernel⟩
theorem vw_1194 : (Jvm.Cond.fieldLink "HashTreeSignerModel" (180 : Nat) "HashTreeSignerModel" "filled" "I") ∈ vGW := vGW_at 1194 (by decide +kernel) (by decide +kernel)
theorem fX12_180_X12 : vFld RX12 180 9 20 := ⟨RX12, TX12, 49, "HashTreeSignerModel", "", rfl, by decide, ivw_X12, Or.inl vw_1194, Or.inl rfl⟩
theorem fX12_180_X12p : vFldP RX12 180 9 20 .int := ⟨RX12, TX12, 49, "HashTreeSignerModel", "", tyX12, rfl, by decide, ivw_X12, Or.inl vw_1194, Or.inl rfl, tyX12_ok, nmX12, rfl, by decide +kernel⟩
theorem vw_1195 : (Jvm.Cond.fieldLink "HashTreeSignerModel" (183 : Nat) "HashTreeSignerModel" "total" "J") ∈ vGW := vGW_at 1195 (by decide +kernel) (by decide +kernel)
theorem fX12_183_X12 : vFld RX12 183 9 21 := ⟨RX12, TX12, 49, "HashTreeSignerModel", "", rfl, by decide, ivw_X12, Or.inl vw_1195, Or.inl rfl⟩
theorem fX12_183_X12p : vFldP RX12 183 9 21 .long := ⟨RX12, TX12, 49, "HashTreeSignerModel", "", tyX12, rfl, by decide, ivw_X12, Or.inl vw_1195, Or.inl rfl, tyX12_ok, nmX12, rfl, by decide +kernel⟩
theorem vw_1196 : (Jvm.Cond.fieldLink "HashTreeSignerModel" (63 : Nat) "HashTreeSignerModel" "hashKey" "[B") ∈ vGW := vGW_at 1196 (by decide +kernel) (by decide +kernel)
theorem fX12_63_X12 : vFld RX12 63 9 22 := ⟨RX12, TX12, 49, "HashTreeSignerModel", "", rfl, by decide, ivw_X12, Or.inl vw_1196, Or.inl rfl⟩
theorem fX12_63_X12f : vFldF RX12 63 9 22 (.array .byte) := ⟨RX12, TX12, 49, "HashTreeSignerModel", "", tyX12, rfl, by decide, ivw_X12, Or.inl vw_1196, Or.inl rfl, tyX12_ok, nmX12, rfl, rfl, by decide +kernel⟩
theorem vw_1197 : (Jvm.Cond.fieldLink "HashTreeSignerModel" (66 : Nat) "HashTreeSignerModel" "inner" "[B") ∈ vGW := vGW_at 1197 (by decide +kernel) (by decide +kernel)
theorem fX12_66_X12 : vFld RX12 66 9 23 := ⟨RX12, TX12, 49, "HashTreeSignerModel", "", rfl, by decide, ivw_X12, Or.inl vw_1197, Or.inl rfl⟩
theorem fX12_66_X12f : vFldF RX12 66 9 23 (.array .byte) := ⟨RX12, TX12, 49, "HashTreeSignerModel", "", tyX12, rfl, by decide, ivw_X12, Or.inl vw_1197, Or.inl rfl, tyX12_ok, nmX12, rfl, rfl, by decide +kernel⟩
theorem vw_1198 : (Jvm.Cond.fieldLink "HashTreeSignerModel" (69 : Nat) "HashTreeSignerModel" "signed" "[B") ∈ vGW := vGW_at 1198 (by decide +kernel) (by decide +kernel)
theorem fX12_69_X12 : vFld RX12 69 9 24 := ⟨RX12, TX12, 49, "HashTreeSignerModel", "", rfl, by decide, ivw_X12, Or.inl vw_1198, Or.inl rfl⟩
theorem fX12_69_X12f : vFldF RX12 69 9 24 (.array .byte) := ⟨RX12, TX12, 49, "HashTreeSignerModel", "", tyX12, rfl, by decide, ivw_X12, Or.inl vw_1198, Or.inl rfl, tyX12_ok, nmX12, rfl, rfl, by decide +kernel⟩
theorem vw_1199 : (Jvm.Cond.fieldLink "HashTreeSignerModel" (72 : Nat) "HashTreeSignerModel" "hash" "[B") ∈ vGW := vGW_at 1199 (by decide +kernel) (by decide +kernel)
theorem fX12_72_X12 : vFld RX12 72 9 25 := ⟨RX12, TX12, 49, "HashTreeSignerModel", "", rfl, by decide, ivw_X12, Or.inl vw_1199, Or.inl rfl⟩
theorem fX12_72_X12f : vFldF RX12 72 9 25 (.array .byte) := ⟨RX12, TX12, 49, "HashTreeSignerModel", "", tyX12, rfl, by decide, ivw_X12, Or.inl vw_1199, Or.inl rfl, tyX12_ok, nmX12, rfl, rfl, by decide +kernel⟩
theorem vw_1200 : (Jvm.Cond.fieldLink "HashTreeSignerModel" (75 : Nat) "HashTreeSignerModel" "buffer" "[B") ∈ vGW := vGW_at 1200 (by decide +kernel) (by decide +kernel)
theorem fX12_75_X12 : vFld RX12 75 9 26 := ⟨RX12, TX12, 49, "HashTreeSignerModel", "", rfl, by decide, ivw_X12, Or.inl vw_1200, Or.inl rfl⟩
theorem fX12_75_X12f : vFldF RX12 75 9 26 (.array .byte) := ⟨RX12, TX12, 49, "HashTreeSignerModel", "", tyX12, rfl, by decide, ivw_X12, Or.inl vw_1200, Or.inl rfl, tyX12_ok, nmX12, rfl, rfl, by decide +kernel⟩
theorem vw_1201 : (Jvm.Cond.fieldLink "HashTreeSignerModel" (78 : Nat) "HashTreeSignerModel" "packet" "[B") ∈ vGW := vGW_at 1201 (by decide +kernel) (by decide +kernel)
theorem fX12_78_X12 : vFld RX12 78 9 27 := ⟨RX12, TX12, 49, "HashTreeSignerModel", "", rfl, by decide, ivw_X12, Or.inl vw_1201, Or.inl rfl⟩
theorem fX12_78_X12f : vFldF RX12 78 9 27 (.array .byte) := ⟨RX12, TX12, 49, "HashTreeSignerModel", "", tyX12, rfl, by decide, ivw_X12, Or.inl vw_1201, Or.inl rfl, tyX12_ok, nmX12, rfl, rfl, by decide +kernel⟩
theorem vw_1202 : (Jvm.Cond.fieldLink "HashTreeSignerModel" (81 : Nat) "HashTreeSignerModel" "address" "[B") ∈ vGW := vGW_at 1202 (by decide +kernel) (by decide +kernel)
theorem fX12_81_X12 : vFld RX12 81 9 28 := ⟨RX12, TX12, 49, "HashTreeSignerModel", "", rfl, by decide, ivw_X12, Or.inl vw_1202, Or.inl rfl⟩
theorem fX12_81_X12f : vFldF RX12 81 9 28 (.array .byte) := ⟨RX12, TX12, 49, "HashTreeSignerModel", "", tyX12, rfl, by decide, ivw_X12, Or.inl vw_1202, Or.inl rfl, tyX12_ok, nmX12, rfl, rfl, by decide +kernel⟩
theorem vw_1203 : (Jvm.Cond.fieldLink "HashTreeSignerModel" (84 : Nat) "HashTreeSignerModel" "pairs" "[[B") ∈ vGW := vGW_at 1203 (by decide +kernel) (by decide +kernel)
theorem fX12_84_X12 : vFld RX12 84 9 29 := ⟨RX12, TX12, 49, "HashTreeSignerModel", "", rfl, by decide, ivw_X12, Or.inl vw_1203, Or.inl rfl⟩
theorem fX12_84_X12f : vFldF RX12 84 9 29 (.array (.array .byte)) := ⟨RX12, TX12, 49, "HashTreeSignerModel", "", tyX12, rfl, by decide, ivw_X12, Or.inl vw_1203, Or.inl rfl, tyX12_ok, nmX12, rfl, rfl, by decide +kernel⟩
theorem vw_1204 : (Jvm.Cond.fieldLink "HashTreeSignerModel" (87 : Nat) "HashTreeSignerModel" "ends" "[B") ∈ vGW := vGW_at 1204 (by decide +kernel) (by decide +kernel)
theorem fX12_87_X12 : vFld RX12 87 9 30 := ⟨RX12, TX12, 49, "HashTreeSignerModel", "", rfl, by decide, ivw_X12, Or.inl vw_1204, Or.inl rfl⟩
theorem fX12_87_X12f : vFldF RX12 87 9 30 (.array .byte) := ⟨RX12, TX12, 49, "HashTreeSignerModel", "", tyX12, rfl, by decide, ivw_X12, Or.inl vw_1204, Or.inl rfl, tyX12_ok, nmX12, rfl, rfl, by decide +kernel⟩
theorem vw_1205 : (Jvm.Cond.fieldLink "HashTreeSignerModel" (90 : Nat) "HashTreeSignerModel" "leaves" "[B") ∈ vGW := vGW_at 1205 (by decide +kernel) (by decide +kernel)
theorem fX12_90_X12 : vFld RX12 90 9 31 := ⟨RX12, TX12, 49, "HashTreeSignerModel", "", rfl, by decide, ivw_X12, Or.inl vw_1205, Or.inl rfl⟩
theorem fX12_90_X12f : vFldF RX12 90 9 31 (.array .byte) := ⟨RX12, TX12, 49, "HashTreeSignerModel", "", tyX12, rfl, by decide, ivw_X12, Or.inl vw_1205, Or.inl rfl, tyX12_ok, nmX12, rfl, rfl, by decide +kernel⟩
theorem vw_1206 : (Jvm.Cond.fieldLink "HashTreeSignerModel" (93 : Nat) "HashTreeSignerModel" "secret" "[B") ∈ vGW := vGW_at 1206 (by decide +kernel) (by decide +kernel)
theorem fX12_93_X12 : vFld RX12 93 9 32 := ⟨RX12, TX12, 49, "HashTreeSignerModel", "", rfl, by decide, ivw_X12, Or.inl vw_1206, Or.inl rfl⟩
theorem fX12_93_X12f : vFldF RX12 93 9 32 (.array .byte) := ⟨RX12, TX12, 49, "HashTreeSignerModel", "", tyX12, rfl, by decide, ivw_X12, Or.inl vw_1206, Or.inl rfl, tyX12_ok, nmX12, rfl, rfl, by decide +kernel⟩
theorem vw_1207 : (Jvm.Cond.fieldLink "HashTreeSignerModel" (96 : Nat) "HashTreeSignerModel" "walk" "[B") ∈ vGW := vGW_at 1207 (by decide +kernel) (by decide +kernel)
theorem fX12_96_X12 : vFld RX12 96 9 33 := ⟨RX12, TX12, 49, "HashTreeSignerModel", "", rfl, by decide, ivw_X12, Or.inl vw_1207, Or.inl rfl⟩
theorem fX12_96_X12f : vFldF RX12 96 9 33 (.array .byte) := ⟨RX12, TX12, 49, "HashTreeSignerModel", "", tyX12, rfl, by decide, ivw_X12, Or.inl vw_1207, Or.inl rfl, tyX12_ok, nmX12, rfl, rfl, by decide +kernel⟩
theorem vw_1208 : (Jvm.Cond.fieldLink "HashTreeSignerModel" (99 : Nat) "HashTreeSignerModel" "long1" "[B") ∈ vGW := vGW_at 1208 (by decide +kernel) (by decide +kernel)
theorem fX12_99_X12 : vFld RX12 99 9 34 := ⟨RX12, TX12, 49, "HashTreeSignerModel", "", rfl, by decide, ivw_X12, Or.inl vw_1208, Or.inl rfl⟩
theorem fX12_99_X12f : vFldF RX12 99 9 34 (.array .byte) := ⟨RX12, TX12, 49, "HashTreeSignerModel", "", tyX12, rfl, by decide, ivw_X12, Or.inl vw_1208, Or.inl rfl, tyX12_ok, nmX12, rfl, rfl, by decide +kernel⟩
theorem vw_1209 : (Jvm.Cond.fieldLink "HashTreeSignerModel" (102 : Nat) "HashTreeSignerModel" "told" "[B") ∈ vGW := vGW_at 1209 (by decide +kernel) (by decide +kernel)
theorem fX12_102_X12 : vFld RX12 102 9 35 := ⟨RX12, TX12, 49, "HashTreeSignerModel", "", rfl, by decide, ivw_X12, Or.inl vw_1209, Or.inl rfl⟩
theorem fX12_102_X12f : vFldF RX12 102 9 35 (.array .byte) := ⟨RX12, TX12, 49, "HashTreeSignerModel", "", tyX12, rfl, by decide, ivw_X12, Or.inl vw_1209, Or.inl rfl, tyX12_ok, nmX12, rfl, rfl, by decide +kernel⟩
theorem vw_1210 : (Jvm.Cond.fieldLink "HashTreeSignerModel" (105 : Nat) "HashTreeSignerModel" "digits" "[I") ∈ vGW := vGW_at 1210 (by decide +kernel) (by decide +kernel)
theorem fX12_105_X12 : vFld RX12 105 9 36 := ⟨RX12, TX12, 49, "HashTreeSignerModel", "", rfl, by decide, ivw_X12, Or.inl vw_1210, Or.inl rfl⟩
theorem fX12_105_X12f : vFldF RX12 105 9 36 (.array .int) := ⟨RX12, TX12, 49, "HashTreeSignerModel", "", tyX12, rfl, by decide, ivw_X12, Or.inl vw_1210, Or.inl rfl, tyX12_ok, nmX12, rfl, rfl, by decide +kernel⟩
theorem vw_1211 : (Jvm.Cond.fieldLink "HashTreeSignerModel" (108 : Nat) "HashTreeSignerModel" "publicSeed" "[B") ∈ vGW := vGW_at 1211 (by decide +kernel) (by decide +kernel)
theorem fX12_108_X12 : vFld RX12 108 9 37 := ⟨RX12, TX12, 49, "HashTreeSignerModel", "", rfl, by decide, ivw_X12, Or.inl vw_1211, Or.inl rfl⟩
theorem fX12_108_X12f : vFldF RX12 108 9 37 (.array .byte) := ⟨RX12, TX12, 49, "HashTreeSignerModel", "", tyX12, rfl, by decide, ivw_X12, Or.inl vw_1211, Or.inl rfl, tyX12_ok, nmX12, rfl, rfl, by decide +kernel⟩
theorem vw_1212 : (Jvm.Cond.fieldLink "HashTreeSignerModel" (111 : Nat) "HashTreeSignerModel" "secretSeed" "[B") ∈ vGW := vGW_at 1212 (by decide +kernel) (by decide +kernel)
theorem fX12_111_X12 : vFld RX12 111 9 38 := ⟨RX12, TX12, 49, "HashTreeSignerModel", "", rfl, by decide, ivw_X12, Or.inl vw_1212, Or.inl rfl⟩
theorem fX12_111_X12f : vFldF RX12 111 9 38 (.array .byte) := ⟨RX12, TX12, 49, "HashTreeSignerModel", "", tyX12, rfl, by decide, ivw_X12, Or.inl vw_1212, Or.inl rfl, tyX12_ok, nmX12, rfl, rfl, by decide +kernel⟩
theorem vw_1213 : (Jvm.Cond.fieldLink "HashTreeSignerModel" (114 : Nat) "HashTreeSignerModel" "turn" "[B") ∈ vGW := vGW_at 1213 (by decide +kernel) (by decide +kernel)
theorem fX12_114_X12 : vFld RX12 114 9 39 := ⟨RX12, TX12, 49, "HashTreeSignerModel", "", rfl, by decide, ivw_X12, Or.inl vw_1213, Or.inl rfl⟩
theorem fX12_114_X12f : vFldF RX12 114 9 39 (.array .byte) := ⟨RX12, TX12, 49, "HashTreeSignerModel", "", tyX12, rfl, by decide, ivw_X12, Or.inl vw_1213, Or.inl rfl, tyX12_ok, nmX12, rfl, rfl, by decide +kernel⟩
theorem vw_1214 : (Jvm.Cond.fieldLink "HashTreeSignerModel" (117 : Nat) "HashTreeSignerModel" "rootNow" "[B") ∈ vGW := vGW_at 1214 (by decide +kernel) (by decide +kernel)
theorem fX12_117_X12 : vFld RX12 117 9 40 := ⟨RX12, TX12, 49, "HashTreeSignerModel", "", rfl, by decide, ivw_X12, Or.inl vw_1214, Or.inl rfl⟩
theorem fX12_117_X12f : vFldF RX12 117 9 40 (.array .byte) := ⟨RX12, TX12, 49, "HashTreeSignerModel", "", tyX12, rfl, by decide, ivw_X12, Or.inl vw_1214, Or.inl rfl, tyX12_ok, nmX12, rfl, rfl, by decide +kernel⟩
theorem vw_1215 : (Jvm.Cond.fieldLink "HashTreeSignerModel" (243 : Nat) "HashTreeSignerModel" "n" "I") ∈ vGW := vGW_at 1215 (by decide +kernel) (by decide +kernel)
theorem fX12_243_X12 : vFld RX12 243 9 41 := ⟨RX12, TX12, 49, "HashTreeSignerModel", "", rfl, by decide, ivw_X12, Or.inl vw_1215, Or.inl rfl⟩
theorem fX12_243_X12p : vFldP RX12 243 9 41 .int := ⟨RX12, TX12, 49, "HashTreeSignerModel", "", tyX12, rfl, by decide, ivw_X12, Or.inl vw_1215, Or.inl rfl, tyX12_ok, nmX12, rfl, by decide +kernel⟩
theorem vw_1216 : (Jvm.Cond.fieldLink "HashTreeSignerModel" (246 : Nat) "HashTreeSignerModel" "h" "I") ∈ vGW := vGW_at 1216 (by decide +kernel) (by decide +kernel)
theorem fX12_246_X12 : vFld RX12 246 9 42 := ⟨RX12, TX12, 49, "HashTreeSignerModel", "", rfl, by decide, ivw_X12, Or.inl vw_1216, Or.inl rfl⟩
theorem fX12_246_X12p : vFldP RX12 246 9 42 .int := ⟨RX12, TX12, 49, "HashTreeSignerModel", "", tyX12, rfl, by decide, ivw_X12, Or.inl vw_1216, Or.inl rfl, tyX12_ok, nmX12, rfl, by decide +kernel⟩
theorem vw_1217 : (Jvm.Cond.fieldLink "HashTreeSignerModel" (249 : Nat) "HashTreeSignerModel" "layers" "I") ∈ vGW := vGW_at 1217 (by decide +kernel) (by decide +kernel)
theorem fX12_249_X12 : vFld RX12 249 9 43 := ⟨RX12, TX12, 49, "HashTreeSignerModel", "", rfl, by decide, ivw_X12, Or.inl vw_1217, Or.inl rfl⟩
theorem fX12_249_X12p : vFldP RX12 249 9 43 .int := ⟨RX12, TX12, 49, "HashTreeSignerModel", "", tyX12, rfl, by decide, ivw_X12, Or.inl vw_1217, Or.inl rfl, tyX12_ok, nmX12, rfl, by decide +kernel⟩
theorem vw_1218 : (Jvm.Cond.fieldLink "HashTreeSignerModel" (258 : Nat) "HashTreeSignerModel" "height" "I") ∈ vGW := vGW_at 1218 (by decide +kernel) (by decide +kernel)
theorem fX12_258_X12 : vFld RX12 258 9 44 := ⟨RX12, TX12, 49, "HashTreeSignerModel", "", rfl, by decide, ivw_X12, Or.inl vw_1218, Or.inl rfl⟩
theorem fX12_258_X12p : vFldP RX12 258 9 44 .int := ⟨RX12, TX12, 49, "HashTreeSignerModel", "", tyX12, rfl, by decide, ivw_X12, Or.inl vw_1218, Or.inl rfl, tyX12_ok, nmX12, rfl, by decide +kernel⟩
theorem vw_1219 : (Jvm.Cond.fieldLink "HashTreeSignerModel" (252 : Nat) "HashTreeSignerModel" "a" "I") ∈ vGW := vGW_at 1219 (by decide +kernel) (by decide +kernel)
theorem fX12_252_X12 : vFld RX12 252 9 45 := ⟨RX12, TX12, 49, "HashTreeSignerModel", "", rfl, by decide, ivw_X12, Or.inl vw_1219, Or.inl rfl⟩
theorem fX12_252_X12p : vFldP RX12 252 9 45 .int := ⟨RX12, TX12, 49, "HashTreeSignerModel", "", tyX12, rfl, by decide, ivw_X12, Or.inl vw_1219, Or.inl rfl, tyX12_ok, nmX12, rfl, by decide +kernel⟩
theorem vw_1220 : (Jvm.Cond.fieldLink "HashTreeSignerModel" (255 : Nat) "HashTreeSignerModel" "trees" "I") ∈ vGW := vGW_at 1220 (by decide +kernel) (by decide +kernel)
theorem fX12_255_X12 : vFld RX12 255 9 46 := ⟨RX12, TX12, 49, "HashTreeSignerModel", "", rfl, by decide, ivw_X12, Or.inl vw_1220, Or.inl rfl⟩
theorem fX12_255_X12p : vFldP RX12 255 9 46 .int := ⟨RX12, TX12, 49, "HashTreeSignerModel", "", tyX12, rfl, by decide, ivw_X12, Or.inl vw_1220, Or.inl rfl, tyX12_ok, nmX12, rfl, by decide +kernel⟩
theorem vw_1221 : (Jvm.Cond.fieldLink "HashTreeSignerModel" (261 : Nat) "HashTreeSignerModel" "chains" "I") ∈ vGW := vGW_at 1221 (by decide +kernel) (by decide +kernel)
theorem fX12_261_X12 : vFld RX12 261 9 47 := ⟨RX12, TX12, 49, "HashTreeSignerModel", "", rfl, by decide, ivw_X12, Or.inl vw_1221, Or.inl rfl⟩
theorem fX12_261_X12p : vFldP RX12 261 9 47 .int := ⟨RX12, TX12, 49, "HashTreeSignerModel", "", tyX12, rfl, by decide, ivw_X12, Or.inl vw_1221, Or.inl rfl, tyX12_ok, nmX12, rfl, by decide +kernel⟩
theorem vw_1222 : (Jvm.Cond.fieldLink "HashTreeSignerModel" (264 : Nat) "HashTreeSignerModel" "shake" "Z") ∈ vGW := vGW_at 1222 (by decide +kernel) (by decide +kernel)
theorem fX12_264_X12 : vFld RX12 264 9 48 := ⟨RX12, TX12, 49, "HashTreeSignerModel", "", rfl, by decide, ivw_X12, Or.inl vw_1222, Or.inl rfl⟩
theorem fX12_264_X12p : vFldP RX12 264 9 48 .boolean := ⟨RX12, TX12, 49, "HashTreeSignerModel", "", tyX12, rfl, by decide, ivw_X12, Or.inl vw_1222, Or.inl rfl, tyX12_ok, nmX12, rfl, by decide +kernel⟩
theorem vw_51 : (Jvm.Cond.methodLink "HashTreeSigner" (38 : Nat) ({ cls := "HashTreeSigner$ShakeFamily", name := "<init>", desc := "()V" } : Jvm.MethodName)) ∈ vGW := vGW_at 51 (by decide +kernel) (by decide +kernel)
theorem vw_52 : (Jvm.Cond.instanceMethod ({ cls := "HashTreeSigner$ShakeFamily", name := "<init>", desc := "()V" } : Jvm.MethodName)) ∈ vGW := vGW_at 52 (by decide +kernel) (by decide +kernel)
theorem vw_4 : (Jvm.Cond.initialized "HashTreeSigner$ShakeFamily") ∈ vGW := vGW_at 4 (by decide +kernel) (by decide +kernel)
set_option maxRecDepth 100000 in
theorem vw_53 : (Jvm.Cond.code ({ cls := "HashTreeSigner$ShakeFamily", name := "<init>", desc := "()V" } : Jvm.MethodName) prog_9_method_1_code (1 : Nat) (Option.none : Option Jvm.ClassFile.FieldType)) ∈ vGW := vGW_at 53 rfl rfl
theorem mX11_38 : vLI RX11 38 yX7_init cX7_init 1 0 := ⟨Or.inl vw_51, vw_52, vw_4, vw_53, rfl, ⟨by decide +kernel, by decide +kernel⟩, by decide +kernel⟩
theorem vw_130 : (Jvm.Cond.methodLink "HashTreeSigner" (39 : Nat) ({ cls := "HashTreeSigner$Trees", name := "<init>", desc := "(LHashTreeSigner$Family;)V" } : Jvm.MethodName)) ∈ vGW := vGW_at 130 (by decide +kernel) (by decide +kernel)
theorem vw_131 : (Jvm.Cond.instanceMethod ({ cls := "HashTreeSigner$Trees", name := "<init>", desc := "(LHashTreeSigner$Family;)V" } : Jvm.MethodName)) ∈ vGW := vGW_at 131 (by decide +kernel) (by decide +kernel)
theorem vw_2 : (Jvm.Cond.initialized "HashTreeSigner$Trees") ∈ vGW := vGW_at 2 (by decide +kernel) (by decide +kernel)
set_option maxRecDepth 100000 in
theorem vw_132 : (Jvm.Cond.code ({ cls := "HashTreeSigner$Trees", name := "<init>", desc := "(LHashTreeSigner$Family;)V" } : Jvm.MethodName) prog_12_method_1_code (2 : Nat) (Option.none : Option Jvm.ClassFile.FieldType)) ∈ vGW := vGW_at 132 rfl rfl
theorem mX11_39 : vLI RX11 39 yX10_init cX10_init 2 1 := ⟨Or.inl vw_130, vw_131, vw_2, vw_132, rfl, ⟨by decide +kernel, by decide +kernel⟩, by decide +kernel⟩
theorem vw_211 : (Jvm.Cond.methodLink "HashTreeSigner" (48 : Nat) ({ cls := "HashTreeSigner$Sha2Family", name := "<init>", desc := "()V" } : Jvm.MethodName)) ∈ vGW := vGW_at 211 (by decide +kernel) (by decide +kernel)
theorem vw_212 : (Jvm.Cond.instanceMethod ({ cls := "HashTreeSigner$Sha2Family", name := "<init>", desc := "()V" } : Jvm.MethodName)) ∈ vGW := vGW_at 212 (by decide +kernel) (by decide +kernel)
theorem vw_11 : (Jvm.Cond.initialized "HashTreeSigner$Sha2Family") ∈ vGW := vGW_at 11 (by decide +kernel) (by decide +kernel)
set_option maxRecDepth 100000 in
theorem vw_213 : (Jvm.Cond.code ({ cls := "HashTreeSigner$Sha2Family", name := "<init>", desc := "()V" } : Jvm.MethodName) prog_7_method_1_code (1 : Nat) (Option.none : Option Jvm.ClassFile.FieldType)) ∈ vGW := vGW_at 213 rfl rfl
theorem mX11_48 : vLI RX11 48 yX5_init cX5_init 1 0 := ⟨Or.inl vw_211, vw_212, vw_11, vw_213, rfl, ⟨by decide +kernel, by decide +kernel⟩, by decide +kernel⟩
theorem vw_399 : (Jvm.Cond.methodLink "HashTreeSigner" (60 : Nat) ({ cls := "HashTreeSigner", name := "putOnTape", desc := "(I)V" } : Jvm.MethodName)) ∈ vGW := vGW_at 399 (by decide +kernel) (by decide +kernel)
theorem vw_401 : (Jvm.Cond.instanceMethod ({ cls := "HashTreeSigner", name := "putOnTape", desc := "(I)V" } : Jvm.MethodName)) ∈ vGW := vGW_at 401 (by decide +kernel) (by decide +kernel)
theorem vs_1 : (Jvm.Cond.selects "HashTreeSigner" ({ cls := "HashTreeSigner", name := "putOnTape", desc := "(I)V" } : Jvm.MethodName) ({ cls := "HashTreeSigner", name := "putOnTape", desc := "(I)V" } : Jvm.MethodName)) ∈ vGW := vGW_sel 1 (by decide +kernel) (by decide +kernel)
theorem vw_1 : (Jvm.Cond.initialized "HashTreeSigner") ∈ vGW := vGW_at 1 (by decide +kernel) (by decide +kernel)
set_option maxRecDepth 100000 in
theorem vw_402 : (Jvm.Cond.code ({ cls := "HashTreeSigner", name := "putOnTape", desc := "(I)V" } : Jvm.MethodName) prog_1_method_23_code (3 : Nat) (Option.none : Option Jvm.ClassFile.FieldType)) ∈ vGW := vGW_at 402 rfl rfl
theorem mX11_60 : vLV RX11 60 yX11_putOnTape cX11_putOnTape 3 none 1 8 := ⟨⟨_, rfl, rfl⟩, Or.inl vw_399, vw_401, vs_1, vw_1, vw_402, ⟨by decide +kernel, by decide +kernel⟩, by decide +kernel⟩
theorem vw_411 : (Jvm.Cond.methodLink "HashTreeSigner" (64 : Nat) ({ cls := "HashTreeSigner", name := "checkSlot", desc := "(I)V" } : Jvm.MethodName)) ∈ vGW := vGW_at 411 (by decide +kernel) (by decide +kernel)
theorem vw_412 : (Jvm.Cond.static ({ cls := "HashTreeSigner", name := "checkSlot", desc := "(I)V" } : Jvm.MethodName)) ∈ vGW := vGW_at 412 (by decide +kernel) (by decide +kernel)
set_option maxRecDepth 100000 in
theorem vw_413 : (Jvm.Cond.code ({ cls := "HashTreeSigner", name := "checkSlot", desc := "(I)V" } : Jvm.MethodName) prog_1_method_14_code (1 : Nat) (Option.none : Option Jvm.ClassFile.FieldType)) ∈ vGW := vGW_at 413 rfl rfl
theorem mX11_64 : vLS RX11 64 yX11_checkSlot cX11_checkSlot 1 none 1 := ⟨Or.inl vw_411, vw_412, vw_1, vw_413, ⟨by decide +kernel, by decide +kernel⟩, by decide +kernel⟩
theorem vw_430 : (Jvm.Cond.methodLink "HashTreeSigner" (67 : Nat) ({ cls := "HashTreeSigner", name := "checkCount", desc := "(I)V" } : Jvm.MethodName)) ∈ vGW := vGW_at 430 (by decide +kernel) (by decide +kernel)
theorem vw_431 : (Jvm.Cond.static ({ cls := "HashTreeSigner", name := "checkCount", desc := "(I)V" } : Jvm.MethodName)) ∈ vGW := vGW_at 431 (by decide +kernel) (by decide +kernel)
set_option maxRecDepth 100000 in
theorem vw_432 : (Jvm.Cond.code ({ cls := "HashTreeSigner", name := "checkCount", desc := "(I)V" } : Jvm.MethodName) prog_1_method_15_code (1 : Nat) (Option.none : Option Jvm.ClassFile.FieldType)) ∈ vGW := vGW_at 432 rfl rfl
theorem mX11_67 : vLS RX11 67 yX11_checkCount cX11_checkCount 1 none 1 := ⟨Or.inl vw_430, vw_431, vw_1, vw_432, ⟨by decide +kernel, by decide +kernel⟩, by decide +kernel⟩
theorem vw_435 : (Jvm.Cond.methodLink "HashTreeSigner" (72 : Nat) ({ cls := "HashTreeSigner", name := "setSlot", desc := "(I[BI)V" } : Jvm.MethodName)) ∈ vGW := vGW_at 435 (by decide +kernel) (by decide +kernel)
theorem vw_437 : (Jvm.Cond.instanceMethod ({ cls := "HashTreeSigner", name := "setSlot", desc := "(I[BI)V" } : Jvm.MethodName)) ∈ vGW := vGW_at 437 (by decide +kernel) (by decide +kernel)
theorem vs_2 : (Jvm.Cond.selects "HashTreeSigner" ({ cls := "HashTreeSigner", name := "setSlot", desc := "(I[BI)V" } : Jvm.MethodName) ({ cls := "HashTreeSigner", name := "setSlot", desc := "(I[BI)V" } : Jvm.MethodName)) ∈ vGW := vGW_sel 2 (by decide +kernel) (by decide +kernel)
set_option maxRecDepth 100000 in
theorem vw_438 : (Jvm.Cond.code ({ cls := "HashTreeSigner", name := "setSlot", desc := "(I[BI)V" } : Jvm.MethodName) prog_1_method_24_code (4 : Nat) (Option.none : Option Jvm.ClassFile.FieldType)) ∈ vGW := vGW_at 438 rfl rfl
theorem mX11_72 : vLV RX11 72 yX11_setSlot cX11_setSlot 4 none 3 8 := ⟨⟨_, rfl, rfl⟩, Or.inl vw_435, vw_437, vs_2, vw_1, vw_438, ⟨by decide +kernel, by decide +kernel⟩, by decide +kernel⟩
theorem vw_456 : (Jvm.Cond.methodLink "HashTreeSigner" (76 : Nat) ({ cls := "java/util/Arrays", name := "fill", desc := "([BIIB)V" } : Jvm.MethodName)) ∈ vGW := vGW_at 456 (by decide +kernel) (by decide +kernel)
theorem vw_457 : (Jvm.Cond.static ({ cls := "java/util/Arrays", name := "fill", desc := "([BIIB)V" } : Jvm.MethodName)) ∈ vGW := vGW_at 457 (by decide +kernel) (by decide +kernel)
theorem vw_10 : (Jvm.Cond.initialized "java/util/Arrays") ∈ vGW := vGW_at 10 (by decide +kernel) (by decide +kernel)
set_option maxRecDepth 100000 in
theorem vw_458 : (Jvm.Cond.code ({ cls := "java/util/Arrays", name := "fill", desc := "([BIIB)V" } : Jvm.MethodName) prog_34_method_110_code (5 : Nat) (Option.none : Option Jvm.ClassFile.FieldType)) ∈ vGW := vGW_at 458 rfl rfl
theorem mX11_76 : vLS RX11 76 yJ7_fill_eb02e cJ7_fill_eb02e 5 none 4 := ⟨Or.inl vw_456, vw_457, vw_10, vw_458, ⟨by decide +kernel, by decide +kernel⟩, by decide +kernel⟩
theorem vw_729 : (Jvm.Cond.methodLink "HashTreeSigner" (87 : Nat) ({ cls := "HashTreeSigner", name := "checkPlace", desc := "(II)V" } : Jvm.MethodName)) ∈ vGW := vGW_at 729 (by decide +kernel) (by decide +kernel)
theorem vw_731 : (Jvm.Cond.instanceMethod ({ cls := "HashTreeSigner", name := "checkPlace", desc := "(II)V" } : Jvm.MethodName)) ∈ vGW := vGW_at 731 (by decide +kernel) (by decide +kernel)
theorem vs_3 : (Jvm.Cond.selects "HashTreeSigner" ({ cls := "HashTreeSigner", name := "checkPlace", desc := "(II)V" } : Jvm.MethodName) ({ cls := "HashTreeSigner", name := "checkPlace", desc := "(II)V" } : Jvm.MethodName)) ∈ vGW := vGW_sel 3 (by decide +kernel) (by decide +kernel)
set_option maxRecDepth 100000 in
theorem vw_732 : (Jvm.Cond.code ({ cls := "HashTreeSigner", name := "checkPlace", desc := "(II)V" } : Jvm.MethodName) prog_1_method_18_code (3 : Nat) (Option.none : Option Jvm.ClassFile.FieldType)) ∈ vGW := vGW_at 732 rfl rfl
theorem mX11_87 : vLV RX11 87 yX11_checkPlace cX11_checkPlace 3 none 2 8 := ⟨⟨_, rfl, rfl⟩, Or.inl vw_729, vw_731, vs_3, vw_1, vw_732, ⟨by decide +kernel, by decide +kernel⟩, by decide +kernel⟩
theorem vw_755 : (Jvm.Cond.methodLink "HashTreeSigner" (91 : Nat) ({ cls := "HashTreeSigner", name := "alike", desc := "([B[BII)Z" } : Jvm.MethodName)) ∈ vGW := vGW_at 755 (by decide +kernel) (by decide +kernel)
theorem vw_756 : (Jvm.Cond.static ({ cls := "HashTreeSigner", name := "alike", desc := "([B[BII)Z" } : Jvm.MethodName)) ∈ vGW := vGW_at 756 (by decide +kernel) (by decide +kernel)
set_option maxRecDepth 100000 in
theorem vw_757 : (Jvm.Cond.code ({ cls := "HashTreeSigner", name := "alike", desc := "([B[BII)Z" } : Jvm.MethodName) prog_1_method_26_code (5 : Nat) (Option.some Jvm.ClassFile.FieldType.boolean)) ∈ vGW := vGW_at 757 rfl rfl
theorem mX11_91 : vLS RX11 91 yX11_alike cX11_alike 5 (some .boolean) 4 := ⟨Or.inl vw_755, vw_756, vw_1, vw_757, ⟨by decide +kernel, by decide +kernel⟩, by decide +kernel⟩
theorem vw_766 : (Jvm.Cond.methodLink "HashTreeSigner" (95 : Nat) ({ cls := "HashTreeSigner", name := "checkSet", desc := "(I)V" } : Jvm.MethodName)) ∈ vGW := vGW_at 766 (by decide +kernel) (by decide +kernel)
theorem vw_767 : (Jvm.Cond.static ({ cls := "HashTreeSigner", name := "checkSet", desc := "(I)V" } : Jvm.MethodName)) ∈ vGW := vGW_at 767 (by decide +kernel) (by decide +kernel)
set_option maxRecDepth 100000 in
theorem vw_768 : (Jvm.Cond.code ({ cls := "HashTreeSigner", name := "checkSet", desc := "(I)V" } : Jvm.MethodName) prog_1_method_16_code (1 : Nat) (Option.none : Option Jvm.ClassFile.FieldType)) ∈ vGW := vGW_at 768 rfl rfl
theorem mX11_95 : vLS RX11 95 yX11_checkSet cX11_checkSet 1 none 1 := ⟨Or.inl vw_766, vw_767, vw_1, vw_768, ⟨by decide +kernel, by decide +kernel⟩, by decide +kernel⟩
theorem vw_770 : (Jvm.Cond.methodLink "HashTreeSigner" (98 : Nat) ({ cls := "HashTreeSigner", name := "sizesOf", desc := "(I)LHashTreeSigner$Sizes;" } : Jvm.MethodName)) ∈ vGW := vGW_at 770 (by decide +kernel) (by decide +kernel)
theorem vw_771 : (Jvm.Cond.static ({ cls := "HashTreeSigner", name := "sizesOf", desc := "(I)LHashTreeSigner$Sizes;" } : Jvm.MethodName)) ∈ vGW := vGW_at 771 (by decide +kernel) (by decide +kernel)
set_option maxRecDepth 100000 in
theorem vw_772 : (Jvm.Cond.code ({ cls := "HashTreeSigner", name := "sizesOf", desc := "(I)LHashTreeSigner$Sizes;" } : Jvm.MethodName) prog_1_method_21_code (1 : Nat) (Option.some (Jvm.ClassFile.FieldType.object "HashTreeSigner$Sizes"))) ∈ vGW := vGW_at 772 rfl rfl
theorem mX11_98 : vLS RX11 98 yX11_sizesOf cX11_sizesOf 1 (some (.object "HashTreeSigner$Sizes")) 1 := ⟨Or.inl vw_770, vw_771, vw_1, vw_772, ⟨by decide +kernel, by decide +kernel⟩, by decide +kernel⟩
theorem vw_791 : (Jvm.Cond.methodLink "HashTreeSigner" (112 : Nat) ({ cls := "HashTreeSigner", name := "treesOf", desc := "(I)LHashTreeSigner$Trees;" } : Jvm.MethodName)) ∈ vGW := vGW_at 791 (by decide +kernel) (by decide +kernel)
theorem vw_793 : (Jvm.Cond.instanceMethod ({ cls := "HashTreeSigner", name := "treesOf", desc := "(I)LHashTreeSigner$Trees;" } : Jvm.MethodName)) ∈ vGW := vGW_at 793 (by decide +kernel) (by decide +kernel)
theorem vs_4 : (Jvm.Cond.selects "HashTreeSigner" ({ cls := "HashTreeSigner", name := "treesOf", desc := "(I)LHashTreeSigner$Trees;" } : Jvm.MethodName) ({ cls := "HashTreeSigner", name := "treesOf", desc := "(I)LHashTreeSigner$Trees;" } : Jvm.MethodName)) ∈ vGW := vGW_sel 4 (by decide +kernel) (by decide +kernel)
set_option maxRecDepth 100000 in
theorem vw_794 : (Jvm.Cond.code ({ cls := "HashTreeSigner", name := "treesOf", desc := "(I)LHashTreeSigner$Trees;" } : Jvm.MethodName) prog_1_method_22_code (2 : Nat) (Option.some (Jvm.ClassFile.FieldType.object "HashTreeSigner$Trees"))) ∈ vGW := vGW_at 794 rfl rfl
theorem mX11_112 : vLV RX11 112 yX11_treesOf cX11_treesOf 2 (some (.object "HashTreeSigner$Trees")) 1 8 := ⟨⟨_, rfl, rfl⟩, Or.inl vw_791, vw_793, vs_4, vw_1, vw_794, ⟨by decide +kernel, by decide +kernel⟩, by decide +kernel⟩
theorem vw_795 : (Jvm.Cond.methodLink "HashTreeSigner" (116 : Nat) ({ cls := "HashTreeSigner$Trees", name := "open", desc := "(LHashTreeSigner$Sizes;[BII)V" } : Jvm.MethodName)) ∈ vGW := vGW_at 795 (by decide +kernel) (by decide +kernel)
theorem vw_796 : (Jvm.Cond.instanceMethod ({ cls := "HashTreeSigner$Trees", name := "open", desc := "(LHashTreeSigner$Sizes;[BII)V" } : Jvm.MethodName)) ∈ vGW := vGW_at 796 (by decide +kernel) (by decide +kernel)
theorem vw_797 : (Jvm.Cond.selects "HashTreeSigner$Trees" ({ cls := "HashTreeSigner$Trees", name := "open", desc := "(LHashTreeSigner$Sizes;[BII)V" } : Jvm.MethodName) ({ cls := "HashTreeSigner$Trees", name := "open", desc := "(LHashTreeSigner$Sizes;[BII)V" } : Jvm.MethodName)) ∈ vGW := vGW_at 797 (by decide +kernel) (by decide +kernel)
set_option maxRecDepth 100000 in
theorem vw_798 : (Jvm.Cond.code ({ cls := "HashTreeSigner$Trees", name := "open", desc := "(LHashTreeSigner$Sizes;[BII)V" } : Jvm.MethodName) prog_12_method_2_code (5 : Nat) (Option.none : Option Jvm.ClassFile.FieldType)) ∈ vGW := vGW_at 798 rfl rfl
theorem mX11_116 : vLV RX11 116 yX10_open cX10_open 5 none 4 7 := ⟨⟨_, rfl, rfl⟩, Or.inl vw_795, vw_796, vw_797, vw_2, vw_798, ⟨by decide +kernel, by decide +kernel⟩, by decide +kernel⟩
theorem vw_862 : (Jvm.Cond.methodLink "HashTreeSigner" (123 : Nat) ({ cls := "HashTreeSigner$Trees", name := "enterLayer", desc := "(IJ)V" } : Jvm.MethodName)) ∈ vGW := vGW_at 862 (by decide +kernel) (by decide +kernel)
theorem vw_863 : (Jvm.Cond.instanceMethod ({ cls := "HashTreeSigner$Trees", name := "enterLayer", desc := "(IJ)V" } : Jvm.MethodName)) ∈ vGW := vGW_at 863 (by decide +kernel) (by decide +kernel)
theorem vw_864 : (Jvm.Cond.selects "HashTreeSigner$Trees" ({ cls := "HashTreeSigner$Trees", name := "enterLayer", desc := "(IJ)V" } : Jvm.MethodName) ({ cls := "HashTreeSigner$Trees", name := "enterLayer", desc := "(IJ)V" } : Jvm.MethodName)) ∈ vGW := vGW_at 864 (by decide +kernel) (by decide +kernel)
set_option maxRecDepth 100000 in
theorem vw_865 : (Jvm.Cond.code ({ cls := "HashTreeSigner$Trees", name := "enterLayer", desc := "(IJ)V" } : Jvm.MethodName) prog_12_method_5_code (4 : Nat) (Option.none : Option Jvm.ClassFile.FieldType)) ∈ vGW := vGW_at 865 rfl rfl
theorem mX11_123 : vLV RX11 123 yX10_enterLayer cX10_enterLayer 4 none 2 7 := ⟨⟨_, rfl, rfl⟩, Or.inl vw_862, vw_863, vw_864, vw_2, vw_865, ⟨by decide +kernel, by decide +kernel⟩, by decide +kernel⟩
theorem vw_870 : (Jvm.Cond.methodLink "HashTreeSigner" (130 : Nat) ({ cls := "HashTreeSigner$Trees", name := "node", desc := "(II[BI)V" } : Jvm.MethodName)) ∈ vGW := vGW_at 870 (by decide +kernel) (by decide +kernel)
theorem vw_871 : (Jvm.Cond.instanceMethod ({ cls := "HashTreeSigner$Trees", name := "node", desc := "(II[BI)V" } : Jvm.MethodName)) ∈ vGW := vGW_at 871 (by decide +kernel) (by decide +kernel)
theorem vw_872 : (Jvm.Cond.selects "HashTreeSigner$Trees" ({ cls := "HashTreeSigner$Trees", name := "node", desc := "(II[BI)V" } : Jvm.MethodName) ({ cls := "HashTreeSigner$Trees", name := "node", desc := "(II[BI)V" } : Jvm.MethodName)) ∈ vGW := vGW_at 872 (by decide +kernel) (by decide +kernel)
set_option maxRecDepth 100000 in
theorem vw_873 : (Jvm.Cond.code ({ cls := "HashTreeSigner$Trees", name := "node", desc := "(II[BI)V" } : Jvm.MethodName) prog_12_method_10_code (8 : Nat) (Option.none : Option Jvm.ClassFile.FieldType)) ∈ vGW := vGW_at 873 rfl rfl
theorem mX11_130 : vLV RX11 130 yX10_node cX10_node 8 none 4 7 := ⟨⟨_, rfl, rfl⟩, Or.inl vw_870, vw_871, vw_872, vw_2, vw_873, ⟨by decide +kernel, by decide +kernel⟩, by decide +kernel⟩
theorem vw_964 : (Jvm.Cond.methodLink "HashTreeSigner" (140 : Nat) ({ cls := "HashTreeSigner", name := "checkHow", desc := "(I)V" } : Jvm.MethodName)) ∈ vGW := vGW_at 964 (by decide +kernel) (by decide +kernel)
theorem vw_965 : (Jvm.Cond.static ({ cls := "HashTreeSigner", name := "checkHow", desc := "(I)V" } : Jvm.MethodName)) ∈ vGW := vGW_at 965 (by decide +kernel) (by decide +kernel)
set_option maxRecDepth 100000 in
theorem vw_966 : (Jvm.Cond.code ({ cls := "HashTreeSigner", name := "checkHow", desc := "(I)V" } : Jvm.MethodName) prog_1_method_17_code (1 : Nat) (Option.none : Option Jvm.ClassFile.FieldType)) ∈ vGW := vGW_at 966 rfl rfl
theorem mX11_140 : vLS RX11 140 yX11_checkHow cX11_checkHow 1 none 1 := ⟨Or.inl vw_964, vw_965, vw_1, vw_966, ⟨by decide +kernel, by decide +kernel⟩, by decide +kernel⟩
theorem vw_968 : (Jvm.Cond.methodLink "HashTreeSigner" (143 : Nat) ({ cls := "HashTreeSigner", name := "checkContext", desc := "(I)V" } : Jvm.MethodName)) ∈ vGW := vGW_at 968 (by decide +kernel) (by decide +kernel)
theorem vw_970 : (Jvm.Cond.instanceMethod ({ cls := "HashTreeSigner", name := "checkContext", desc := "(I)V" } : Jvm.MethodName)) ∈ vGW := vGW_at 970 (by decide +kernel) (by decide +kernel)
theorem vs_8 : (Jvm.Cond.selects "HashTreeSigner" ({ cls := "HashTreeSigner", name := "checkContext", desc := "(I)V" } : Jvm.MethodName) ({ cls := "HashTreeSigner", name := "checkContext", desc := "(I)V" } : Jvm.MethodName)) ∈ vGW := vGW_sel 8 (by decide +kernel) (by decide +kernel)
set_option maxRecDepth 100000 in
theorem vw_971 : (Jvm.Cond.code ({ cls := "HashTreeSigner", name := "checkContext", desc := "(I)V" } : Jvm.MethodName) prog_1_method_19_code (2 : Nat) (Option.none : Option Jvm.ClassFile.FieldType)) ∈ vGW := vGW_at 971 rfl rfl
theorem mX11_143 : vLV RX11 143 yX11_checkContext cX11_checkContext 2 none 1 8 := ⟨⟨_, rfl, rfl⟩, Or.inl vw_968, vw_970, vs_8, vw_1, vw_971, ⟨by decide +kernel, by decide +kernel⟩, by decide +kernel⟩
theorem vw_974 : (Jvm.Cond.methodLink "HashTreeSigner" (148 : Nat) ({ cls := "HashTreeSigner", name := "checkSecret", desc := "(LHashTreeSigner$Sizes;)V" } : Jvm.MethodName)) ∈ vGW := vGW_at 974 (by decide +kernel) (by decide +kernel)
theorem vw_976 : (Jvm.Cond.instanceMethod ({ cls := "HashTreeSigner", name := "checkSecret", desc := "(LHashTreeSigner$Sizes;)V" } : Jvm.MethodName)) ∈ vGW := vGW_at 976 (by decide +kernel) (by decide +kernel)
theorem vs_9 : (Jvm.Cond.selects "HashTreeSigner" ({ cls := "HashTreeSigner", name := "checkSecret", desc := "(LHashTreeSigner$Sizes;)V" } : Jvm.MethodName) ({ cls := "HashTreeSigner", name := "checkSecret", desc := "(LHashTreeSigner$Sizes;)V" } : Jvm.MethodName)) ∈ vGW := vGW_sel 9 (by decide +kernel) (by decide +kernel)
set_option maxRecDepth 100000 in
theorem vw_977 : (Jvm.Cond.code ({ cls := "HashTreeSigner", name := "checkSecret", desc := "(LHashTreeSigner$Sizes;)V" } : Jvm.MethodName) prog_1_method_20_code (2 : Nat) (Option.none : Option Jvm.ClassFile.FieldType)) ∈ vGW := vGW_at 977 rfl rfl
theorem mX11_148 : vLV RX11 148 yX11_checkSecret cX11_checkSecret 2 none 1 8 := ⟨⟨_, rfl, rfl⟩, Or.inl vw_974, vw_976, vs_9, vw_1, vw_977, ⟨by decide +kernel, by decide +kernel⟩, by decide +kernel⟩
theorem vw_994 : (Jvm.Cond.methodLink "HashTreeSigner" (152 : Nat) ({ cls := "HashTreeSigner", name := "laySigned", desc := "(I)V" } : Jvm.MethodName)) ∈ vGW := vGW_at 994 (by decide +kernel) (by decide +kernel)
theorem vw_996 : (Jvm.Cond.instanceMethod ({ cls := "HashTreeSigner", name := "laySigned", desc := "(I)V" } : Jvm.MethodName)) ∈ vGW := vGW_at 996 (by decide +kernel) (by decide +kernel)
theorem vs_10 : (Jvm.Cond.selects "HashTreeSigner" ({ cls := "HashTreeSigner", name := "laySigned", desc := "(I)V" } : Jvm.MethodName) ({ cls := "HashTreeSigner", name := "laySigned", desc := "(I)V" } : Jvm.MethodName)) ∈ vGW := vGW_sel 10 (by decide +kernel) (by decide +kernel)
set_option maxRecDepth 100000 in
theorem vw_997 : (Jvm.Cond.code ({ cls := "HashTreeSigner", name := "laySigned", desc := "(I)V" } : Jvm.MethodName) prog_1_method_25_code (3 : Nat) (Option.none : Option Jvm.ClassFile.FieldType)) ∈ vGW := vGW_at 997 rfl rfl
theorem mX11_152 : vLV RX11 152 yX11_laySigned cX11_laySigned 3 none 1 8 := ⟨⟨_, rfl, rfl⟩, Or.inl vw_994, vw_996, vs_10, vw_1, vw_997, ⟨by decide +kernel, by decide +kernel⟩, by decide +kernel⟩
theorem vw_998 : (Jvm.Cond.methodLink "HashTreeSigner" (155 : Nat) ({ cls := "HashTreeSigner$Trees", name := "randomize", desc := "([BI[BI[B)V" } : Jvm.MethodName)) ∈ vGW := vGW_at 998 (by decide +kernel) (by decide +kernel)
theorem vw_999 : (Jvm.Cond.instanceMethod ({ cls := "HashTreeSigner$Trees", name := "randomize", desc := "([BI[BI[B)V" } : Jvm.MethodName)) ∈ vGW := vGW_at 999 (by decide +kernel) (by decide +kernel)
theorem vw_1000 : (Jvm.Cond.selects "HashTreeSigner$Trees" ({ cls := "HashTreeSigner$Trees", name := "randomize", desc := "([BI[BI[B)V" } : Jvm.MethodName) ({ cls := "HashTreeSigner$Trees", name := "randomize", desc := "([BI[BI[B)V" } : Jvm.MethodName)) ∈ vGW := vGW_at 1000 (by decide +kernel) (by decide +kernel)
set_option maxRecDepth 100000 in
theorem vw_1001 : (Jvm.Cond.code ({ cls := "HashTreeSigner$Trees", name := "randomize", desc := "([BI[BI[B)V" } : Jvm.MethodName) prog_12_method_3_code (6 : Nat) (Option.none : Option Jvm.ClassFile.FieldType)) ∈ vGW := vGW_at 1001 rfl rfl
theorem mX11_155 : vLV RX11 155 yX10_randomize cX10_randomize 6 none 5 7 := ⟨⟨_, rfl, rfl⟩, Or.inl vw_998, vw_999, vw_1000, vw_2, vw_1001, ⟨by decide +kernel, by decide +kernel⟩, by decide +kernel⟩
theorem vw_1019 : (Jvm.Cond.methodLink "HashTreeSigner" (159 : Nat) ({ cls := "HashTreeSigner$Trees", name := "choose", desc := "([B[BI)V" } : Jvm.MethodName)) ∈ vGW := vGW_at 1019 (by decide +kernel) (by decide +kernel)
theorem vw_1020 : (Jvm.Cond.instanceMethod ({ cls := "HashTreeSigner$Trees", name := "choose", desc := "([B[BI)V" } : Jvm.MethodName)) ∈ vGW := vGW_at 1020 (by decide +kernel) (by decide +kernel)
theorem vw_1021 : (Jvm.Cond.selects "HashTreeSigner$Trees" ({ cls := "HashTreeSigner$Trees", name := "choose", desc := "([B[BI)V" } : Jvm.MethodName) ({ cls := "HashTreeSigner$Trees", name := "choose", desc := "([B[BI)V" } : Jvm.MethodName)) ∈ vGW := vGW_at 1021 (by decide +kernel) (by decide +kernel)
set_option maxRecDepth 100000 in
theorem vw_1022 : (Jvm.Cond.code ({ cls := "HashTreeSigner$Trees", name := "choose", desc := "([B[BI)V" } : Jvm.MethodName) prog_12_method_4_code (9 : Nat) (Option.none : Option Jvm.ClassFile.FieldType)) ∈ vGW := vGW_at 1022 rfl rfl
theorem mX11_159 : vLV RX11 159 yX10_choose cX10_choose 9 none 3 7 := ⟨⟨_, rfl, rfl⟩, Or.inl vw_1019, vw_1020, vw_1021, vw_2, vw_1022, ⟨by decide +kernel, by decide +kernel⟩, by decide +kernel⟩
theorem vw_1038 : (Jvm.Cond.methodLink "HashTreeSigner" (163 : Nat) ({ cls := "HashTreeSigner$Trees", name := "signForest", desc := "([BI)I" } : Jvm.MethodName)) ∈ vGW := vGW_at 1038 (by decide +kernel) (by decide +kernel)
theorem vw_1039 : (Jvm.Cond.instanceMethod ({ cls := "HashTreeSigner$Trees", name := "signForest", desc := "([BI)I" } : Jvm.MethodName)) ∈ vGW := vGW_at 1039 (by decide +kernel) (by decide +kernel)
theorem vw_1040 : (Jvm.Cond.selects "HashTreeSigner$Trees" ({ cls := "HashTreeSigner$Trees", name := "signForest", desc := "([BI)I" } : Jvm.MethodName) ({ cls := "HashTreeSigner$Trees", name := "signForest", desc := "([BI)I" } : Jvm.MethodName)) ∈ vGW := vGW_at 1040 (by decide +kernel) (by decide +kernel)
set_option maxRecDepth 100000 in
theorem vw_1041 : (Jvm.Cond.code ({ cls := "HashTreeSigner$Trees", name := "signForest", desc := "([BI)I" } : Jvm.MethodName) prog_12_method_6_code (7 : Nat) (Option.some Jvm.ClassFile.FieldType.int)) ∈ vGW := vGW_at 1041 rfl rfl
theorem mX11_163 : vLV RX11 163 yX10_signForest cX10_signForest 7 (some .int) 2 7 := ⟨⟨_, rfl, rfl⟩, Or.inl vw_1038, vw_1039, vw_1040, vw_2, vw_1041, ⟨by decide +kernel, by decide +kernel⟩, by decide +kernel⟩
theorem vw_1059 : (Jvm.Cond.methodLink "HashTreeSigner" (167 : Nat) ({ cls := "HashTreeSigner$Trees", name := "signLayer", desc := "(I[BI)I" } : Jvm.MethodName)) ∈ vGW := vGW_at 1059 (by decide +kernel) (by decide +kernel)
theorem vw_1060 : (Jvm.Cond.instanceMethod ({ cls := "HashTreeSigner$Trees", name := "signLayer", desc := "(I[BI)I" } : Jvm.MethodName)) ∈ vGW := vGW_at 1060 (by decide +kernel) (by decide +kernel)
theorem vw_1061 : (Jvm.Cond.selects "HashTreeSigner$Trees" ({ cls := "HashTreeSigner$Trees", name := "signLayer", desc := "(I[BI)I" } : Jvm.MethodName) ({ cls := "HashTreeSigner$Trees", name := "signLayer", desc := "(I[BI)I" } : Jvm.MethodName)) ∈ vGW := vGW_at 1061 (by decide +kernel) (by decide +kernel)
set_option maxRecDepth 100000 in
theorem vw_1062 : (Jvm.Cond.code ({ cls := "HashTreeSigner$Trees", name := "signLayer", desc := "(I[BI)I" } : Jvm.MethodName) prog_12_method_8_code (6 : Nat) (Option.some Jvm.ClassFile.FieldType.int)) ∈ vGW := vGW_at 1062 rfl rfl
theorem mX11_167 : vLV RX11 167 yX10_signLayer cX10_signLayer 6 (some .int) 3 7 := ⟨⟨_, rfl, rfl⟩, Or.inl vw_1059, vw_1060, vw_1061, vw_2, vw_1062, ⟨by decide +kernel, by decide +kernel⟩, by decide +kernel⟩
theorem vw_1080 : (Jvm.Cond.methodLink "HashTreeSigner" (179 : Nat) ({ cls := "HashTreeSigner$Trees", name := "forestRoot", desc := "([BI)I" } : Jvm.MethodName)) ∈ vGW := vGW_at 1080 (by decide +kernel) (by decide +kernel)
theorem vw_1052 : (Jvm.Cond.instanceMethod ({ cls := "HashTreeSigner$Trees", name := "forestRoot", desc := "([BI)I" } : Jvm.MethodName)) ∈ vGW := vGW_at 1052 (by decide +kernel) (by decide +kernel)
theorem vw_1053 : (Jvm.Cond.selects "HashTreeSigner$Trees" ({ cls := "HashTreeSigner$Trees", name := "forestRoot", desc := "([BI)I" } : Jvm.MethodName) ({ cls := "HashTreeSigner$Trees", name := "forestRoot", desc := "([BI)I" } : Jvm.MethodName)) ∈ vGW := vGW_at 1053 (by decide +kernel) (by decide +kernel)
set_option maxRecDepth 100000 in
theorem vw_1054 : (Jvm.Cond.code ({ cls := "HashTreeSigner$Trees", name := "forestRoot", desc := "([BI)I" } : Jvm.MethodName) prog_12_method_7_code (6 : Nat) (Option.some Jvm.ClassFile.FieldType.int)) ∈ vGW := vGW_at 1054 rfl rfl
theorem mX11_179 : vLV RX11 179 yX10_forestRoot cX10_forestRoot 6 (some .int) 2 7 := ⟨⟨_, rfl, rfl⟩, Or.inl vw_1080, vw_1052, vw_1053, vw_2, vw_1054, ⟨by decide +kernel, by decide +kernel⟩, by decide +kernel⟩
theorem vw_1081 : (Jvm.Cond.methodLink "HashTreeSigner" (182 : Nat) ({ cls := "HashTreeSigner$Trees", name := "layerRoot", desc := "(I[BI)I" } : Jvm.MethodName)) ∈ vGW := vGW_at 1081 (by decide +kernel) (by decide +kernel)
theorem vw_1069 : (Jvm.Cond.instanceMethod ({ cls := "HashTreeSigner$Trees", name := "layerRoot", desc := "(I[BI)I" } : Jvm.MethodName)) ∈ vGW := vGW_at 1069 (by decide +kernel) (by decide +kernel)
theorem vw_1070 : (Jvm.Cond.selects "HashTreeSigner$Trees" ({ cls := "HashTreeSigner$Trees", name := "layerRoot", desc := "(I[BI)I" } : Jvm.MethodName) ({ cls := "HashTreeSigner$Trees", name := "layerRoot", desc := "(I[BI)I" } : Jvm.MethodName)) ∈ vGW := vGW_at 1070 (by decide +kernel) (by decide +kernel)
set_option maxRecDepth 100000 in
theorem vw_1071 : (Jvm.Cond.code ({ cls := "HashTreeSigner$Trees", name := "layerRoot", desc := "(I[BI)I" } : Jvm.MethodName) prog_12_method_9_code (5 : Nat) (Option.some Jvm.ClassFile.FieldType.int)) ∈ vGW := vGW_at 1071 rfl rfl
theorem mX11_182 : vLV RX11 182 yX10_layerRoot cX10_layerRoot 5 (some .int) 3 7 := ⟨⟨_, rfl, rfl⟩, Or.inl vw_1081, vw_1069, vw_1070, vw_2, vw_1071, ⟨by decide +kernel, by decide +kernel⟩, by decide +kernel⟩
theorem vw_882 : (Jvm.Cond.methodLink "HashTreeSigner$Address" (26 : Nat) ({ cls := "HashTreeSigner$Address", name := "put", desc := "(II)V" } : Jvm.MethodName)) ∈ vGW := vGW_at 882 (by decide +kernel) (by decide +kernel)
theorem vw_884 : (Jvm.Cond.instanceMethod ({ cls := "HashTreeSigner$Address", name := "put", desc := "(II)V" } : Jvm.MethodName)) ∈ vGW := vGW_at 884 (by decide +kernel) (by decide +kernel)
theorem vs_6 : (Jvm.Cond.selects "HashTreeSigner$Address" ({ cls := "HashTreeSigner$Address", name := "put", desc := "(II)V" } : Jvm.MethodName) ({ cls := "HashTreeSigner$Address", name := "put", desc := "(II)V" } : Jvm.MethodName)) ∈ vGW := vGW_sel 6 (by decide +kernel) (by decide +kernel)
theorem vw_5 : (Jvm.Cond.initialized "HashTreeSigner$Address") ∈ vGW := vGW_at 5 (by decide +kernel) (by decide +kernel)
set_option maxRecDepth 100000 in
theorem vw_885 : (Jvm.Cond.code ({ cls := "HashTreeSigner$Address", name := "put", desc := "(II)V" } : Jvm.MethodName) prog_2_method_5_code (3 : Nat) (Option.none : Option Jvm.ClassFile.FieldType)) ∈ vGW := vGW_at 885 rfl rfl
theorem mX0_26 : vLV RX0 26 yX0_put cX0_put 3 none 2 0 := ⟨⟨_, rfl, rfl⟩, Or.inl vw_882, vw_884, vs_6, vw_5, vw_885, ⟨by decide +kernel, by decide +kernel⟩, by decide +kernel⟩
theorem vw_142 : (Jvm.Cond.methodLink "HashTreeSigner$Chains" (34 : Nat) ({ cls := "java/util/Arrays", name := "fill", desc := "([II)V" } : Jvm.MethodName)) ∈ vGW := vGW_at 142 (by decide +kernel) (by decide +kernel)
theorem vw_143 : (Jvm.Cond.static ({ cls := "java/util/Arrays", name := "fill", desc := "([II)V" } : Jvm.MethodName)) ∈ vGW := vGW_at 143 (by decide +kernel) (by decide +kernel)
set_option maxRecDepth 100000 in
theorem vw_144 : (Jvm.Cond.code ({ cls := "java/util/Arrays", name := "fill", desc := "([II)V" } : Jvm.MethodName) prog_34_method_103_code (4 : Nat) (Option.none : Option Jvm.ClassFile.FieldType)) ∈ vGW := vGW_at 144 rfl rfl
theorem mX1_34 : vLS RX1 34 yJ7_fill_53178 cJ7_fill_53178 4 none 2 := ⟨Or.inl vw_142, vw_143, vw_10, vw_144, ⟨by decide +kernel, by decide +kernel⟩, by decide +kernel⟩
theorem vw_941 : (Jvm.Cond.methodLink "HashTreeSigner$Chains" (54 : Nat) ({ cls := "HashTreeSigner$Address", name := "name", desc := "(IIII)V" } : Jvm.MethodName)) ∈ vGW := vGW_at 941 (by decide +kernel) (by decide +kernel)
theorem vw_879 : (Jvm.Cond.instanceMethod ({ cls := "HashTreeSigner$Address", name := "name", desc := "(IIII)V" } : Jvm.MethodName)) ∈ vGW := vGW_at 879 (by decide +kernel) (by decide +kernel)
theorem vw_880 : (Jvm.Cond.selects "HashTreeSigner$Address" ({ cls := "HashTreeSigner$Address", name := "name", desc := "(IIII)V" } : Jvm.MethodName) ({ cls := "HashTreeSigner$Address", name := "name", desc := "(IIII)V" } : Jvm.MethodName)) ∈ vGW := vGW_at 880 (by decide +kernel) (by decide +kernel)
set_option maxRecDepth 100000 in
theorem vw_881 : (Jvm.Cond.code ({ cls := "HashTreeSigner$Address", name := "name", desc := "(IIII)V" } : Jvm.MethodName) prog_2_method_3_code (5 : Nat) (Option.none : Option Jvm.ClassFile.FieldType)) ∈ vGW := vGW_at 881 rfl rfl
theorem mX1_54 : vLV RX1 54 yX0_name cX0_name 5 none 4 0 := ⟨⟨_, rfl, rfl⟩, Or.inl vw_941, vw_879, vw_880, vw_5, vw_881, ⟨by decide +kernel, by decide +kernel⟩, by decide +kernel⟩
theorem vw_942 : (Jvm.Cond.methodLink "HashTreeSigner$Chains" (61 : Nat) ({ cls := "HashTreeSigner$Family", name := "f", desc := "([BII[BI)V" } : Jvm.MethodName)) ∈ vGW := vGW_at 942 (by decide +kernel) (by decide +kernel)
theorem vw_888 : (Jvm.Cond.sameMethod "HashTreeSigner$Family" "HashTreeSigner$Family" "f" "([BII[BI)V") ∈ vGW := vGW_at 888 (by decide +kernel) (by decide +kernel)
theorem vw_889 : (Jvm.Cond.selects "HashTreeSigner$Sha2Family" ({ cls := "HashTreeSigner$Family", name := "f", desc := "([BII[BI)V" } : Jvm.MethodName) ({ cls := "HashTreeSigner$Sha2Family", name := "f", desc := "([BII[BI)V" } : Jvm.MethodName)) ∈ vGW := vGW_at 889 (by decide +kernel) (by decide +kernel)
theorem vw_890 : (Jvm.Cond.instanceMethod ({ cls := "HashTreeSigner$Sha2Family", name := "f", desc := "([BII[BI)V" } : Jvm.MethodName)) ∈ vGW := vGW_at 890 (by decide +kernel) (by decide +kernel)
set_option maxRecDepth 100000 in
theorem vw_891 : (Jvm.Cond.code ({ cls := "HashTreeSigner$Sha2Family", name := "f", desc := "([BII[BI)V" } : Jvm.MethodName) prog_7_method_3_code (7 : Nat) (Option.none : Option Jvm.ClassFile.FieldType)) ∈ vGW := vGW_at 891 rfl rfl
theorem mX1_61_X5 : vLU RX1 61 ({ cls := "HashTreeSigner$Family", name := "f", desc := "([BII[BI)V" } : Jvm.MethodName) yX5_f cX5_f 7 none 5 3 := ⟨_, "HashTreeSigner$Family", rfl, vw_942, vw_888, Or.inl (List.mem_of_getElem? (i := 9) rfl), vw_889, vw_890, vw_11, vw_891, ⟨by decide +kernel, by decide +kernel⟩, by decide +kernel⟩
theorem vw_906 : (Jvm.Cond.selects "HashTreeSigner$ShakeFamily" ({ cls := "HashTreeSigner$Family", name := "f", desc := "([BII[BI)V" } : Jvm.MethodName) ({ cls := "HashTreeSigner$ShakeFamily", name := "f", desc := "([BII[BI)V" } : Jvm.MethodName)) ∈ vGW := vGW_at 906 (by decide +kernel) (by decide +kernel)
theorem vw_907 : (Jvm.Cond.instanceMethod ({ cls := "HashTreeSigner$ShakeFamily", name := "f", desc := "([BII[BI)V" } : Jvm.MethodName)) ∈ vGW := vGW_at 907 (by decide +kernel) (by decide +kernel)
set_option maxRecDepth 100000 in
theorem vw_908 : (Jvm.Cond.code ({ cls := "HashTreeSigner$ShakeFamily", name := "f", desc := "([BII[BI)V" } : Jvm.MethodName) prog_9_method_3_code (6 : Nat) (Option.none : Option Jvm.ClassFile.FieldType)) ∈ vGW := vGW_at 908 rfl rfl
theorem mX1_61_X7 : vLU RX1 61 ({ cls := "HashTreeSigner$Family", name := "f", desc := "([BII[BI)V" } : Jvm.MethodName) yX7_f cX7_f 6 none 5 5 := ⟨_, "HashTreeSigner$Family", rfl, vw_942, vw_888, Or.inl (List.mem_of_getElem? (i := 9) rfl), vw_906, vw_907, vw_4, vw_908, ⟨by decide +kernel, by decide +kernel⟩, by decide +kernel⟩
theorem vw_947 : (Jvm.Cond.methodLink "HashTreeSigner$Chains" (65 : Nat) ({ cls := "HashTreeSigner$Address", name := "step", desc := "(I)V" } : Jvm.MethodName)) ∈ vGW := vGW_at 947 (by decide +kernel) (by decide +kernel)
theorem vw_948 : (Jvm.Cond.instanceMethod ({ cls := "HashTreeSigner$Address", name := "step", desc := "(I)V" } : Jvm.MethodName)) ∈ vGW := vGW_at 948 (by decide +kernel) (by decide +kernel)
theorem vw_949 : (Jvm.Cond.selects "HashTreeSigner$Address" ({ cls := "HashTreeSigner$Address", name := "step", desc := "(I)V" } : Jvm.MethodName) ({ cls := "HashTreeSigner$Address", name := "step", desc := "(I)V" } : Jvm.MethodName)) ∈ vGW := vGW_at 949 (by decide +kernel) (by decide +kernel)
set_option maxRecDepth 100000 in
theorem vw_950 : (Jvm.Cond.code ({ cls := "HashTreeSigner$Address", name := "step", desc := "(I)V" } : Jvm.MethodName) prog_2_method_4_code (2 : Nat) (Option.none : Option Jvm.ClassFile.FieldType)) ∈ vGW := vGW_at 950 rfl rfl
theorem mX1_65 : vLV RX1 65 yX0_step cX0_step 2 none 1 0 := ⟨⟨_, rfl, rfl⟩, Or.inl vw_947, vw_948, vw_949, vw_5, vw_950, ⟨by decide +kernel, by decide +kernel⟩, by decide +kernel⟩
theorem vw_810 : (Jvm.Cond.methodLink "HashTreeSigner$Family" (27 : Nat) ({ cls := "HashTreeSigner$Family", name := "useSeed", desc := "()V" } : Jvm.MethodName)) ∈ vGW := vGW_at 810 (by decide +kernel) (by decide +kernel)
theorem vw_812 : (Jvm.Cond.sameMethod "HashTreeSigner$Family" "HashTreeSigner$Family" "useSeed" "()V") ∈ vGW := vGW_at 812 (by decide +kernel) (by decide +kernel)
theorem vw_813 : (Jvm.Cond.selects "HashTreeSigner$Sha2Family" ({ cls := "HashTreeSigner$Family", name := "useSeed", desc := "()V" } : Jvm.MethodName) ({ cls := "HashTreeSigner$Sha2Family", name := "useSeed", desc := "()V" } : Jvm.MethodName)) ∈ vGW := vGW_at 813 (by decide +kernel) (by decide +kernel)
theorem vw_814 : (Jvm.Cond.instanceMethod ({ cls := "HashTreeSigner$Sha2Family", name := "useSeed", desc := "()V" } : Jvm.MethodName)) ∈ vGW := vGW_at 814 (by decide +kernel) (by decide +kernel)
set_option maxRecDepth 100000 in
theorem vw_815 : (Jvm.Cond.code ({ cls := "HashTreeSigner$Sha2Family", name := "useSeed", desc := "()V" } : Jvm.MethodName) prog_7_method_2_code (1 : Nat) (Option.none : Option Jvm.ClassFile.FieldType)) ∈ vGW := vGW_at 815 rfl rfl
theorem mX2_27_X5 : vLU RX2 27 ({ cls := "HashTreeSigner$Family", name := "useSeed", desc := "()V" } : Jvm.MethodName) yX5_useSeed cX5_useSeed 1 none 0 3 := ⟨_, "HashTreeSigner$Family", rfl, vw_810, vw_812, Or.inl (List.mem_of_getElem? (i := 7) rfl), vw_813, vw_814, vw_11, vw_815, ⟨by decide +kernel, by decide +kernel⟩, by decide +kernel⟩
theorem vw_859 : (Jvm.Cond.selects "HashTreeSigner$ShakeFamily" ({ cls := "HashTreeSigner$Family", name := "useSeed", desc := "()V" } : Jvm.MethodName) ({ cls := "HashTreeSigner$ShakeFamily", name := "useSeed", desc := "()V" } : Jvm.MethodName)) ∈ vGW := vGW_at 859 (by decide +kernel) (by decide +kernel)
theorem vw_860 : (Jvm.Cond.instanceMethod ({ cls := "HashTreeSigner$ShakeFamily", name := "useSeed", desc := "()V" } : Jvm.MethodName)) ∈ vGW := vGW_at 860 (by decide +kernel) (by decide +kernel)
set_option maxRecDepth 100000 in
theorem vw_861 : (Jvm.Cond.code ({ cls := "HashTreeSigner$ShakeFamily", name := "useSeed", desc := "()V" } : Jvm.MethodName) prog_9_method_2_code (1 : Nat) (Option.none : Option Jvm.ClassFile.FieldType)) ∈ vGW := vGW_at 861 rfl rfl
theorem mX2_27_X7 : vLU RX2 27 ({ cls := "HashTreeSigner$Family", name := "useSeed", desc := "()V" } : Jvm.MethodName) yX7_useSeed cX7_useSeed 1 none 0 5 := ⟨_, "HashTreeSigner$Family", rfl, vw_810, vw_812, Or.inl (List.mem_of_getElem? (i := 7) rfl), vw_859, vw_860, vw_4, vw_861, ⟨by decide +kernel, by decide +kernel⟩, by decide +kernel⟩
theorem vw_833 : (Jvm.Cond.methodLink "HashTreeSigner$Sha2" (43 : Nat) ({ cls := "HashTreeSigner$Sha2", name := "compress", desc := "()V" } : Jvm.MethodName)) ∈ vGW := vGW_at 833 (by decide +kernel) (by decide +kernel)
theorem vw_835 : (Jvm.Cond.sameMethod "HashTreeSigner$Sha2" "HashTreeSigner$Sha2" "compress" "()V") ∈ vGW := vGW_at 835 (by decide +kernel) (by decide +kernel)
theorem vw_836 : (Jvm.Cond.selects "HashTreeSigner$Sha256" ({ cls := "HashTreeSigner$Sha2", name := "compress", desc := "()V" } : Jvm.MethodName) ({ cls := "HashTreeSigner$Sha256", name := "compress", desc := "()V" } : Jvm.MethodName)) ∈ vGW := vGW_at 836 (by decide +kernel) (by decide +kernel)
theorem vw_837 : (Jvm.Cond.instanceMethod ({ cls := "HashTreeSigner$Sha256", name := "compress", desc := "()V" } : Jvm.MethodName)) ∈ vGW := vGW_at 837 (by decide +kernel) (by decide +kernel)
theorem vw_13 : (Jvm.Cond.initialized "HashTreeSigner$Sha256") ∈ vGW := vGW_at 13 (by decide +kernel) (by decide +kernel)
set_option maxRecDepth 100000 in
theorem vw_838 : (Jvm.Cond.code ({ cls := "HashTreeSigner$Sha256", name := "compress", desc := "()V" } : Jvm.MethodName) prog_6_method_2_code (14 : Nat) (Option.none : Option Jvm.ClassFile.FieldType)) ∈ vGW := vGW_at 838 rfl rfl
theorem mX3_43_X4 : vLU RX3 43 ({ cls := "HashTreeSigner$Sha2", name := "compress", desc := "()V" } : Jvm.MethodName) yX4_compress cX4_compress 14 none 0 2 := ⟨_, "HashTreeSigner$Sha2", rfl, vw_833, vw_835, Or.inl (List.mem_of_getElem? (i := 8) rfl), vw_836, vw_837, vw_13, vw_838, ⟨by decide +kernel, by decide +kernel⟩, by decide +kernel⟩
theorem vw_844 : (Jvm.Cond.selects "HashTreeSigner$Sha512" ({ cls := "HashTreeSigner$Sha2", name := "compress", desc := "()V" } : Jvm.MethodName) ({ cls := "HashTreeSigner$Sha512", name := "compress", desc := "()V" } : Jvm.MethodName)) ∈ vGW := vGW_at 844 (by decide +kernel) (by decide +kernel)
theorem vw_845 : (Jvm.Cond.instanceMethod ({ cls := "HashTreeSigner$Sha512", name := "compress", desc := "()V" } : Jvm.MethodName)) ∈ vGW := vGW_at 845 (by decide +kernel) (by decide +kernel)
theorem vw_14 : (Jvm.Cond.initialized "HashTreeSigner$Sha512") ∈ vGW := vGW_at 14 (by decide +kernel) (by decide +kernel)
set_option maxRecDepth 100000 in
theorem vw_846 : (Jvm.Cond.code ({ cls := "HashTreeSigner$Sha512", name := "compress", desc := "()V" } : Jvm.MethodName) prog_8_method_2_code (26 : Nat) (Option.none : Option Jvm.ClassFile.FieldType)) ∈ vGW := vGW_at 846 rfl rfl
theorem mX3_43_X6 : vLU RX3 43 ({ cls := "HashTreeSigner$Sha2", name := "compress", desc := "()V" } : Jvm.MethodName) yX6_compress cX6_compress 26 none 0 4 := ⟨_, "HashTreeSigner$Sha2", rfl, vw_833, vw_835, Or.inl (List.mem_of_getElem? (i := 8) rfl), vw_844, vw_845, vw_14, vw_846, ⟨by decide +kernel, by decide +kernel⟩, by decide +kernel⟩
theorem vw_904 : (Jvm.Cond.methodLink "HashTreeSigner$Sha2" (46 : Nat) ({ cls := "java/util/Arrays", name := "fill", desc := "([BIIB)V" } : Jvm.MethodName)) ∈ vGW := vGW_at 904 (by decide +kernel) (by decide +kernel)
theorem mX3_46 : vLS RX3 46 yJ7_fill_eb02e cJ7_fill_eb02e 5 none 4 := ⟨Or.inl vw_904, vw_457, vw_10, vw_458, ⟨by decide +kernel, by decide +kernel⟩, by decide +kernel⟩
theorem vw_222 : (Jvm.Cond.methodLink "HashTreeSigner$Sha256" (1 : Nat) ({ cls := "HashTreeSigner$Sha2", name := "<init>", desc := "(I)V" } : Jvm.MethodName)) ∈ vGW := vGW_at 222 (by decide +kernel) (by decide +kernel)
theorem vw_223 : (Jvm.Cond.instanceMethod ({ cls := "HashTreeSigner$Sha2", name := "<init>", desc := "(I)V" } : Jvm.MethodName)) ∈ vGW := vGW_at 223 (by decide +kernel) (by decide +kernel)
theorem vw_12 : (Jvm.Cond.initialized "HashTreeSigner$Sha2") ∈ vGW := vGW_at 12 (by decide +kernel) (by decide +kernel)
set_option maxRecDepth 100000 in
theorem vw_224 : (Jvm.Cond.code ({ cls := "HashTreeSigner$Sha2", name := "<init>", desc := "(I)V" } : Jvm.MethodName) prog_5_method_1_code (2 : Nat) (Option.none : Option Jvm.ClassFile.FieldType)) ∈ vGW := vGW_at 224 rfl rfl
theorem mX4_1 : vLI RX4 1 yX3_init cX3_init 2 1 := ⟨Or.inl vw_222, vw_223, vw_12, vw_224, rfl, ⟨by decide +kernel, by decide +kernel⟩, by decide +kernel⟩
theorem vw_839 : (Jvm.Cond.methodLink "HashTreeSigner$Sha256" (17 : Nat) ({ cls := "java/lang/Integer", name := "rotateRight", desc := "(II)I" } : Jvm.MethodName)) ∈ vGW := vGW_at 839 (by decide +kernel) (by decide +kernel)
theorem vw_840 : (Jvm.Cond.static ({ cls := "java/lang/Integer", name := "rotateRight", desc := "(II)I" } : Jvm.MethodName)) ∈ vGW := vGW_at 840 (by decide +kernel) (by decide +kernel)
theorem vw_30 : (Jvm.Cond.initialized "java/lang/Integer") ∈ vGW := vGW_at 30 (by decide +kernel) (by decide +kernel)
set_option maxRecDepth 100000 in
theorem vw_841 : (Jvm.Cond.code ({ cls := "java/lang/Integer", name := "rotateRight", desc := "(II)I" } : Jvm.MethodName) prog_23_method_51_code (2 : Nat) (Option.some Jvm.ClassFile.FieldType.int)) ∈ vGW := vGW_at 841 rfl rfl
theorem mX4_17 : vLS RX4 17 yJ6_rotateRight_7cf53 cJ6_rotateRight_7cf53 2 (some .int) 2 := ⟨Or.inl vw_839, vw_840, vw_30, vw_841, ⟨by decide +kernel, by decide +kernel⟩, by decide +kernel⟩
theorem vw_215 : (Jvm.Cond.methodLink "HashTreeSigner$Sha2Family" (3 : Nat) ({ cls := "HashTreeSigner$Address", name := "<init>", desc := "(IIII)V" } : Jvm.MethodName)) ∈ vGW := vGW_at 215 (by decide +kernel) (by decide +kernel)
theorem vw_57 : (Jvm.Cond.instanceMethod ({ cls := "HashTreeSigner$Address", name := "<init>", desc := "(IIII)V" } : Jvm.MethodName)) ∈ vGW := vGW_at 57 (by decide +kernel) (by decide +kernel)
set_option maxRecDepth 100000 in
theorem vw_58 : (Jvm.Cond.code ({ cls := "HashTreeSigner$Address", name := "<init>", desc := "(IIII)V" } : Jvm.MethodName) prog_2_method_1_code (5 : Nat) (Option.none : Option Jvm.ClassFile.FieldType)) ∈ vGW := vGW_at 58 rfl rfl
theorem mX5_3 : vLI RX5 3 yX0_init cX0_init 5 4 := ⟨Or.inl vw_215, vw_57, vw_5, vw_58, rfl, ⟨by decide +kernel, by decide +kernel⟩, by decide +kernel⟩
theorem vw_216 : (Jvm.Cond.methodLink "HashTreeSigner$Sha2Family" (7 : Nat) ({ cls := "HashTreeSigner$Family", name := "<init>", desc := "(LHashTreeSigner$Address;)V" } : Jvm.MethodName)) ∈ vGW := vGW_at 216 (by decide +kernel) (by decide +kernel)
theorem vw_81 : (Jvm.Cond.instanceMethod ({ cls := "HashTreeSigner$Family", name := "<init>", desc := "(LHashTreeSigner$Address;)V" } : Jvm.MethodName)) ∈ vGW := vGW_at 81 (by decide +kernel) (by decide +kernel)
theorem vw_3 : (Jvm.Cond.initialized "HashTreeSigner$Family") ∈ vGW := vGW_at 3 (by decide +kernel) (by decide +kernel)
set_option maxRecDepth 100000 in
theorem vw_82 : (Jvm.Cond.code ({ cls := "HashTreeSigner$Family", name := "<init>", desc := "(LHashTreeSigner$Address;)V" } : Jvm.MethodName) prog_4_method_1_code (2 : Nat) (Option.none : Option Jvm.ClassFile.FieldType)) ∈ vGW := vGW_at 82 rfl rfl
theorem mX5_7 : vLI RX5 7 yX2_init cX2_init 2 1 := ⟨Or.inl vw_216, vw_81, vw_3, vw_82, rfl, ⟨by decide +kernel, by decide +kernel⟩, by decide +kernel⟩
theorem vw_219 : (Jvm.Cond.methodLink "HashTreeSigner$Sha2Family" (14 : Nat) ({ cls := "HashTreeSigner$Sha256", name := "<init>", desc := "()V" } : Jvm.MethodName)) ∈ vGW := vGW_at 219 (by decide +kernel) (by decide +kernel)
theorem vw_220 : (Jvm.Cond.instanceMethod ({ cls := "HashTreeSigner$Sha256", name := "<init>", desc := "()V" } : Jvm.MethodName)) ∈ vGW := vGW_at 220 (by decide +kernel) (by decide +kernel)
set_option maxRecDepth 100000 in
theorem vw_221 : (Jvm.Cond.code ({ cls := "HashTreeSigner$Sha256", name := "<init>", desc := "()V" } : Jvm.MethodName) prog_6_method_1_code (1 : Nat) (Option.none : Option Jvm.ClassFile.FieldType)) ∈ vGW := vGW_at 221 rfl rfl
theorem mX5_14 : vLI RX5 14 yX4_init cX4_init 1 0 := ⟨Or.inl vw_219, vw_220, vw_13, vw_221, rfl, ⟨by decide +kernel, by decide +kernel⟩, by decide +kernel⟩
theorem vw_262 : (Jvm.Cond.methodLink "HashTreeSigner$Sha2Family" (25 : Nat) ({ cls := "HashTreeSigner$Sha512", name := "<init>", desc := "()V" } : Jvm.MethodName)) ∈ vGW := vGW_at 262 (by decide +kernel) (by decide +kernel)
theorem vw_263 : (Jvm.Cond.instanceMethod ({ cls := "HashTreeSigner$Sha512", name := "<init>", desc := "()V" } : Jvm.MethodName)) ∈ vGW := vGW_at 263 (by decide +kernel) (by decide +kernel)
set_option maxRecDepth 100000 in
theorem vw_264 : (Jvm.Cond.code ({ cls := "HashTreeSigner$Sha512", name := "<init>", desc := "()V" } : Jvm.MethodName) prog_8_method_1_code (1 : Nat) (Option.none : Option Jvm.ClassFile.FieldType)) ∈ vGW := vGW_at 264 rfl rfl
theorem mX5_25 : vLI RX5 25 yX6_init cX6_init 1 0 := ⟨Or.inl vw_262, vw_263, vw_14, vw_264, rfl, ⟨by decide +kernel, by decide +kernel⟩, by decide +kernel⟩
theorem vw_816 : (Jvm.Cond.methodLink "HashTreeSigner$Sha2Family" (39 : Nat) ({ cls := "java/util/Arrays", name := "fill", desc := "([BB)V" } : Jvm.MethodName)) ∈ vGW := vGW_at 816 (by decide +kernel) (by decide +kernel)
theorem vw_817 : (Jvm.Cond.static ({ cls := "java/util/Arrays", name := "fill", desc := "([BB)V" } : Jvm.MethodName)) ∈ vGW := vGW_at 817 (by decide +kernel) (by decide +kernel)
set_option maxRecDepth 100000 in
theorem vw_818 : (Jvm.Cond.code ({ cls := "java/util/Arrays", name := "fill", desc := "([BB)V" } : Jvm.MethodName) prog_34_method_109_code (4 : Nat) (Option.none : Option Jvm.ClassFile.FieldType)) ∈ vGW := vGW_at 818 rfl rfl
theorem mX5_39 : vLS RX5 39 yJ7_fill_031fb cJ7_fill_031fb 4 none 2 := ⟨Or.inl vw_816, vw_817, vw_10, vw_818, ⟨by decide +kernel, by decide +kernel⟩, by decide +kernel⟩
theorem vw_820 : (Jvm.Cond.instanceMethod ({ cls := "HashTreeSigner$Sha2", name := "start", desc := "()V" } : Jvm.MethodName)) ∈ vGW := vGW_at 820 (by decide +kernel) (by decide +kernel)
set_option maxRecDepth 100000 in
theorem vw_824 : (Jvm.Cond.code ({ cls := "HashTreeSigner$Sha2", name := "start", desc := "()V" } : Jvm.MethodName) prog_5_method_3_code (3 : Nat) (Option.none : Option Jvm.ClassFile.FieldType)) ∈ vGW := vGW_at 824 rfl rfl
theorem vw_819 : (Jvm.Cond.methodLink "HashTreeSigner$Sha2Family" (45 : Nat) ({ cls := "HashTreeSigner$Sha2", name := "start", desc := "()V" } : Jvm.MethodName)) ∈ vGW := vGW_at 819 (by decide +kernel) (by decide +kernel)
theorem vw_821 : (Jvm.Cond.sameMethod "HashTreeSigner$Sha2" "HashTreeSigner$Sha2" "start" "()V") ∈ vGW := vGW_at 821 (by decide +kernel) (by decide +kernel)
theorem vw_822 : (Jvm.Cond.selects "HashTreeSigner$Sha256" ({ cls := "HashTreeSigner$Sha2", name := "start", desc := "()V" } : Jvm.MethodName) ({ cls := "HashTreeSigner$Sha2", name := "start", desc := "()V" } : Jvm.MethodName)) ∈ vGW := vGW_at 822 (by decide +kernel) (by decide +kernel)
theorem mX5_45_X4 : vLU RX5 45 yX3_start yX3_start cX3_start 3 none 0 2 := ⟨_, "HashTreeSigner$Sha2", rfl, vw_819, vw_821, Or.inr ⟨_, _, _, vw_820, vw_824⟩, vw_822, vw_820, vw_12, vw_824, ⟨by decide +kernel, by decide +kernel⟩, by decide +kernel⟩
theorem vw_823 : (Jvm.Cond.selects "HashTreeSigner$Sha512" ({ cls := "HashTreeSigner$Sha2", name := "start", desc := "()V" } : Jvm.MethodName) ({ cls := "HashTreeSigner$Sha2", name := "start", desc := "()V" } : Jvm.MethodName)) ∈ vGW := vGW_at 823 (by decide +kernel) (by decide +kernel)
theorem mX5_45_X6 : vLU RX5 45 yX3_start yX3_start cX3_start 3 none 0 4 := ⟨_, "HashTreeSigner$Sha2", rfl, vw_819, vw_821, Or.inr ⟨_, _, _, vw_820, vw_824⟩, vw_823, vw_820, vw_12, vw_824, ⟨by decide +kernel, by decide +kernel⟩, by decide +kernel⟩
theorem vw_828 : (Jvm.Cond.instanceMethod ({ cls := "HashTreeSigner$Sha2", name := "add", desc := "([BII)V" } : Jvm.MethodName)) ∈ vGW := vGW_at 828 (by decide +kernel) (by decide +kernel)
set_option maxRecDepth 100000 in
theorem vw_832 : (Jvm.Cond.code ({ cls := "HashTreeSigner$Sha2", name := "add", desc := "([BII)V" } : Jvm.MethodName) prog_5_method_6_code (5 : Nat) (Option.none : Option Jvm.ClassFile.FieldType)) ∈ vGW := vGW_at 832 rfl rfl
theorem vw_827 : (Jvm.Cond.methodLink "HashTreeSigner$Sha2Family" (57 : Nat) ({ cls := "HashTreeSigner$Sha2", name := "add", desc := "([BII)V" } : Jvm.MethodName)) ∈ vGW := vGW_at 827 (by decide +kernel) (by decide +kernel)
theorem vw_829 : (Jvm.Cond.sameMethod "HashTreeSigner$Sha2" "HashTreeSigner$Sha2" "add" "([BII)V") ∈ vGW := vGW_at 829 (by decide +kernel) (by decide +kernel)
theorem vw_830 : (Jvm.Cond.selects "HashTreeSigner$Sha256" ({ cls := "HashTreeSigner$Sha2", name := "add", desc := "([BII)V" } : Jvm.MethodName) ({ cls := "HashTreeSigner$Sha2", name := "add", desc := "([BII)V" } : Jvm.MethodName)) ∈ vGW := vGW_at 830 (by decide +kernel) (by decide +kernel)
theorem mX5_57_X4 : vLU RX5 57 yX3_add yX3_add cX3_add 5 none 3 2 := ⟨_, "HashTreeSigner$Sha2", rfl, vw_827, vw_829, Or.inr ⟨_, _, _, vw_828, vw_832⟩, vw_830, vw_828, vw_12, vw_832, ⟨by decide +kernel, by decide +kernel⟩, by decide +kernel⟩
theorem vw_831 : (Jvm.Cond.selects "HashTreeSigner$Sha512" ({ cls := "HashTreeSigner$Sha2", name := "add", desc := "([BII)V" } : Jvm.MethodName) ({ cls := "HashTreeSigner$Sha2", name := "add", desc := "([BII)V" } : Jvm.MethodName)) ∈ vGW := vGW_at 831 (by decide +kernel) (by decide +kernel)
theorem mX5_57_X6 : vLU RX5 57 yX3_add yX3_add cX3_add 5 none 3 4 := ⟨_, "HashTreeSigner$Sha2", rfl, vw_827, vw_829, Or.inr ⟨_, _, _, vw_828, vw_832⟩, vw_831, vw_828, vw_12, vw_832, ⟨by decide +kernel, by decide +kernel⟩, by decide +kernel⟩
theorem vw_853 : (Jvm.Cond.instanceMethod ({ cls := "HashTreeSigner$Sha2", name := "keep", desc := "()V" } : Jvm.MethodName)) ∈ vGW := vGW_at 853 (by decide +kernel) (by decide +kernel)
set_option maxRecDepth 100000 in
theorem vw_857 : (Jvm.Cond.code ({ cls := "HashTreeSigner$Sha2", name := "keep", desc := "()V" } : Jvm.MethodName) prog_5_method_4_code (1 : Nat) (Option.none : Option Jvm.ClassFile.FieldType)) ∈ vGW := vGW_at 857 rfl rfl
theorem vw_852 : (Jvm.Cond.methodLink "HashTreeSigner$Sha2Family" (64 : Nat) ({ cls := "HashTreeSigner$Sha2", name := "keep", desc := "()V" } : Jvm.MethodName)) ∈ vGW := vGW_at 852 (by decide +kernel) (by decide +kernel)
theorem vw_854 : (Jvm.Cond.sameMethod "HashTreeSigner$Sha2" "HashTreeSigner$Sha2" "keep" "()V") ∈ vGW := vGW_at 854 (by decide +kernel) (by decide +kernel)
theorem vw_855 : (Jvm.Cond.selects "HashTreeSigner$Sha256" ({ cls := "HashTreeSigner$Sha2", name := "keep", desc := "()V" } : Jvm.MethodName) ({ cls := "HashTreeSigner$Sha2", name := "keep", desc := "()V" } : Jvm.MethodName)) ∈ vGW := vGW_at 855 (by decide +kernel) (by decide +kernel)
theorem mX5_64_X4 : vLU RX5 64 yX3_keep yX3_keep cX3_keep 1 none 0 2 := ⟨_, "HashTreeSigner$Sha2", rfl, vw_852, vw_854, Or.inr ⟨_, _, _, vw_853, vw_857⟩, vw_855, vw_853, vw_12, vw_857, ⟨by decide +kernel, by decide +kernel⟩, by decide +kernel⟩
theorem vw_856 : (Jvm.Cond.selects "HashTreeSigner$Sha512" ({ cls := "HashTreeSigner$Sha2", name := "keep", desc := "()V" } : Jvm.MethodName) ({ cls := "HashTreeSigner$Sha2", name := "keep", desc := "()V" } : Jvm.MethodName)) ∈ vGW := vGW_at 856 (by decide +kernel) (by decide +kernel)
theorem mX5_64_X6 : vLU RX5 64 yX3_keep yX3_keep cX3_keep 1 none 0 4 := ⟨_, "HashTreeSigner$Sha2", rfl, vw_852, vw_854, Or.inr ⟨_, _, _, vw_853, vw_857⟩, vw_856, vw_853, vw_12, vw_857, ⟨by decide +kernel, by decide +kernel⟩, by decide +kernel⟩
theorem vw_893 : (Jvm.Cond.instanceMethod ({ cls := "HashTreeSigner$Sha2", name := "resume", desc := "()V" } : Jvm.MethodName)) ∈ vGW := vGW_at 893 (by decide +kernel) (by decide +kernel)
set_option maxRecDepth 100000 in
theorem vw_897 : (Jvm.Cond.code ({ cls := "HashTreeSigner$Sha2", name := "resume", desc := "()V" } : Jvm.MethodName) prog_5_method_5_code (1 : Nat) (Option.none : Option Jvm.ClassFile.FieldType)) ∈ vGW := vGW_at 897 rfl rfl
theorem vw_892 : (Jvm.Cond.methodLink "HashTreeSigner$Sha2Family" (67 : Nat) ({ cls := "HashTreeSigner$Sha2", name := "resume", desc := "()V" } : Jvm.MethodName)) ∈ vGW := vGW_at 892 (by decide +kernel) (by decide +kernel)
theorem vw_894 : (Jvm.Cond.sameMethod "HashTreeSigner$Sha2" "HashTreeSigner$Sha2" "resume" "()V") ∈ vGW := vGW_at 894 (by decide +kernel) (by decide +kernel)
theorem vw_895 : (Jvm.Cond.selects "HashTreeSigner$Sha256" ({ cls := "HashTreeSigner$Sha2", name := "resume", desc := "()V" } : Jvm.MethodName) ({ cls := "HashTreeSigner$Sha2", name := "resume", desc := "()V" } : Jvm.MethodName)) ∈ vGW := vGW_at 895 (by decide +kernel) (by decide +kernel)
theorem mX5_67_X4 : vLU RX5 67 yX3_resume yX3_resume cX3_resume 1 none 0 2 := ⟨_, "HashTreeSigner$Sha2", rfl, vw_892, vw_894, Or.inr ⟨_, _, _, vw_893, vw_897⟩, vw_895, vw_893, vw_12, vw_897, ⟨by decide +kernel, by decide +kernel⟩, by decide +kernel⟩
theorem vw_896 : (Jvm.Cond.selects "HashTreeSigner$Sha512" ({ cls := "HashTreeSigner$Sha2", name := "resume", desc := "()V" } : Jvm.MethodName) ({ cls := "HashTreeSigner$Sha2", name := "resume", desc := "()V" } : Jvm.MethodName)) ∈ vGW := vGW_at 896 (by decide +kernel) (by decide +kernel)
theorem mX5_67_X6 : vLU RX5 67 yX3_resume yX3_resume cX3_resume 1 none 0 4 := ⟨_, "HashTreeSigner$Sha2", rfl, vw_892, vw_894, Or.inr ⟨_, _, _, vw_893, vw_897⟩, vw_896, vw_893, vw_12, vw_897, ⟨by decide +kernel, by decide +kernel⟩, by decide +kernel⟩
theorem vw_899 : (Jvm.Cond.instanceMethod ({ cls := "HashTreeSigner$Sha2", name := "finish", desc := "([BII)V" } : Jvm.MethodName)) ∈ vGW := vGW_at 899 (by decide +kernel) (by decide +kernel)
set_option maxRecDepth 100000 in
theorem vw_903 : (Jvm.Cond.code ({ cls := "HashTreeSigner$Sha2", name := "finish", desc := "([BII)V" } : Jvm.MethodName) prog_5_method_7_code (6 : Nat) (Option.none : Option Jvm.ClassFile.FieldType)) ∈ vGW := vGW_at 903 rfl rfl
theorem vw_898 : (Jvm.Cond.methodLink "HashTreeSigner$Sha2Family" (77 : Nat) ({ cls := "HashTreeSigner$Sha2", name := "finish", desc := "([BII)V" } : Jvm.MethodName)) ∈ vGW := vGW_at 898 (by decide +kernel) (by decide +kernel)
theorem vw_900 : (Jvm.Cond.sameMethod "HashTreeSigner$Sha2" "HashTreeSigner$Sha2" "finish" "([BII)V") ∈ vGW := vGW_at 900 (by decide +kernel) (by decide +kernel)
theorem vw_901 : (Jvm.Cond.selects "HashTreeSigner$Sha256" ({ cls := "HashTreeSigner$Sha2", name := "finish", desc := "([BII)V" } : Jvm.MethodName) ({ cls := "HashTreeSigner$Sha2", name := "finish", desc := "([BII)V" } : Jvm.MethodName)) ∈ vGW := vGW_at 901 (by decide +kernel) (by decide +kernel)
theorem mX5_77_X4 : vLU RX5 77 yX3_finish yX3_finish cX3_finish 6 none 3 2 := ⟨_, "HashTreeSigner$Sha2", rfl, vw_898, vw_900, Or.inr ⟨_, _, _, vw_899, vw_903⟩, vw_901, vw_899, vw_12, vw_903, ⟨by decide +kernel, by decide +kernel⟩, by decide +kernel⟩
theorem vw_902 : (Jvm.Cond.selects "HashTreeSigner$Sha512" ({ cls := "HashTreeSigner$Sha2", name := "finish", desc := "([BII)V" } : Jvm.MethodName) ({ cls := "HashTreeSigner$Sha2", name := "finish", desc := "([BII)V" } : Jvm.MethodName)) ∈ vGW := vGW_at 902 (by decide +kernel) (by decide +kernel)
theorem mX5_77_X6 : vLU RX5 77 yX3_finish yX3_finish cX3_finish 6 none 3 4 := ⟨_, "HashTreeSigner$Sha2", rfl, vw_898, vw_900, Or.inr ⟨_, _, _, vw_899, vw_903⟩, vw_902, vw_899, vw_12, vw_903, ⟨by decide +kernel, by decide +kernel⟩, by decide +kernel⟩
theorem vw_1008 : (Jvm.Cond.methodLink "HashTreeSigner$Sha2Family" (80 : Nat) ({ cls := "HashTreeSigner$Sha2Family", name := "messageHash", desc := "()LHashTreeSigner$Sha2;" } : Jvm.MethodName)) ∈ vGW := vGW_at 1008 (by decide +kernel) (by decide +kernel)
theorem vw_1010 : (Jvm.Cond.instanceMethod ({ cls := "HashTreeSigner$Sha2Family", name := "messageHash", desc := "()LHashTreeSigner$Sha2;" } : Jvm.MethodName)) ∈ vGW := vGW_at 1010 (by decide +kernel) (by decide +kernel)
theorem vs_11 : (Jvm.Cond.selects "HashTreeSigner$Sha2Family" ({ cls := "HashTreeSigner$Sha2Family", name := "messageHash", desc := "()LHashTreeSigner$Sha2;" } : Jvm.MethodName) ({ cls := "HashTreeSigner$Sha2Family", name := "messageHash", desc := "()LHashTreeSigner$Sha2;" } : Jvm.MethodName)) ∈ vGW := vGW_sel 11 (by decide +kernel) (by decide +kernel)
set_option maxRecDepth 100000 in
theorem vw_1011 : (Jvm.Cond.code ({ cls := "HashTreeSigner$Sha2Family", name := "messageHash", desc := "()LHashTreeSigner$Sha2;" } : Jvm.MethodName) prog_7_method_6_code (1 : Nat) (Option.some (Jvm.ClassFile.FieldType.object "HashTreeSigner$Sha2"))) ∈ vGW := vGW_at 1011 rfl rfl
theorem mX5_80 : vLV RX5 80 yX5_messageHash cX5_messageHash 1 (some (.object "HashTreeSigner$Sha2")) 0 3 := ⟨⟨_, rfl, rfl⟩, Or.inl vw_1008, vw_1010, vs_11, vw_11, vw_1011, ⟨by decide +kernel, by decide +kernel⟩, by decide +kernel⟩
theorem vw_1012 : (Jvm.Cond.methodLink "HashTreeSigner$Sha2Family" (84 : Nat) ({ cls := "HashTreeSigner$Sha2Family", name := "startKeyed", desc := "(LHashTreeSigner$Sha2;I)V" } : Jvm.MethodName)) ∈ vGW := vGW_at 1012 (by decide +kernel) (by decide +kernel)
theorem vw_1014 : (Jvm.Cond.instanceMethod ({ cls := "HashTreeSigner$Sha2Family", name := "startKeyed", desc := "(LHashTreeSigner$Sha2;I)V" } : Jvm.MethodName)) ∈ vGW := vGW_at 1014 (by decide +kernel) (by decide +kernel)
theorem vs_12 : (Jvm.Cond.selects "HashTreeSigner$Sha2Family" ({ cls := "HashTreeSigner$Sha2Family", name := "startKeyed", desc := "(LHashTreeSigner$Sha2;I)V" } : Jvm.MethodName) ({ cls := "HashTreeSigner$Sha2Family", name := "startKeyed", desc := "(LHashTreeSigner$Sha2;I)V" } : Jvm.MethodName)) ∈ vGW := vGW_sel 12 (by decide +kernel) (by decide +kernel)
set_option maxRecDepth 100000 in
theorem vw_1015 : (Jvm.Cond.code ({ cls := "HashTreeSigner$Sha2Family", name := "startKeyed", desc := "(LHashTreeSigner$Sha2;I)V" } : Jvm.MethodName) prog_7_method_7_code (4 : Nat) (Option.none : Option Jvm.ClassFile.FieldType)) ∈ vGW := vGW_at 1015 rfl rfl
theorem mX5_84 : vLV RX5 84 yX5_startKeyed cX5_startKeyed 4 none 2 3 := ⟨⟨_, rfl, rfl⟩, Or.inl vw_1012, vw_1014, vs_12, vw_11, vw_1015, ⟨by decide +kernel, by decide +kernel⟩, by decide +kernel⟩
theorem vw_1029 : (Jvm.Cond.methodLink "HashTreeSigner$Sha2Family" (88 : Nat) ({ cls := "java/lang/Math", name := "min", desc := "(II)I" } : Jvm.MethodName)) ∈ vGW := vGW_at 1029 (by decide +kernel) (by decide +kernel)
theorem vw_536 : (Jvm.Cond.static ({ cls := "java/lang/Math", name := "min", desc := "(II)I" } : Jvm.MethodName)) ∈ vGW := vGW_at 536 (by decide +kernel) (by decide +kernel)
theorem vw_27 : (Jvm.Cond.initialized "java/lang/Math") ∈ vGW := vGW_at 27 (by decide +kernel) (by decide +kernel)
set_option maxRecDepth 100000 in
theorem vw_537 : (Jvm.Cond.code ({ cls := "java/lang/Math", name := "min", desc := "(II)I" } : Jvm.MethodName) prog_25_method_69_code (2 : Nat) (Option.some Jvm.ClassFile.FieldType.int)) ∈ vGW := vGW_at 537 rfl rfl
theorem mX5_88 : vLS RX5 88 yJ9_min_7cf53 cJ9_min_7cf53 2 (some .int) 2 := ⟨Or.inl vw_1029, vw_536, vw_27, vw_537, ⟨by decide +kernel, by decide +kernel⟩, by decide +kernel⟩
theorem vw_265 : (Jvm.Cond.methodLink "HashTreeSigner$Sha512" (1 : Nat) ({ cls := "HashTreeSigner$Sha2", name := "<init>", desc := "(I)V" } : Jvm.MethodName)) ∈ vGW := vGW_at 265 (by decide +kernel) (by decide +kernel)
theorem mX6_1 : vLI RX6 1 yX3_init cX3_init 2 1 := ⟨Or.inl vw_265, vw_223, vw_12, vw_224, rfl, ⟨by decide +kernel, by decide +kernel⟩, by decide +kernel⟩
theorem vw_847 : (Jvm.Cond.methodLink "HashTreeSigner$Sha512" (17 : Nat) ({ cls := "java/lang/Long", name := "rotateRight", desc := "(JI)J" } : Jvm.MethodName)) ∈ vGW := vGW_at 847 (by decide +kernel) (by decide +kernel)
theorem vw_848 : (Jvm.Cond.static ({ cls := "java/lang/Long", name := "rotateRight", desc := "(JI)J" } : Jvm.MethodName)) ∈ vGW := vGW_at 848 (by decide +kernel) (by decide +kernel)
theorem vw_33 : (Jvm.Cond.initialized "java/lang/Long") ∈ vGW := vGW_at 33 (by decide +kernel) (by decide +kernel)
set_option maxRecDepth 100000 in
theorem vw_849 : (Jvm.Cond.code ({ cls := "java/lang/Long", name := "rotateRight", desc := "(JI)J" } : Jvm.MethodName) prog_24_method_52_code (3 : Nat) (Option.some Jvm.ClassFile.FieldType.long)) ∈ vGW := vGW_at 849 rfl rfl
theorem mX6_17 : vLS RX6 17 yJ13_rotateRight_b2ac5 cJ13_rotateRight_b2ac5 3 (some .long) 2 := ⟨Or.inl vw_847, vw_848, vw_33, vw_849, ⟨by decide +kernel, by decide +kernel⟩, by decide +kernel⟩
theorem vw_56 : (Jvm.Cond.methodLink "HashTreeSigner$ShakeFamily" (3 : Nat) ({ cls := "HashTreeSigner$Address", name := "<init>", desc := "(IIII)V" } : Jvm.MethodName)) ∈ vGW := vGW_at 56 (by decide +kernel) (by decide +kernel)
theorem mX7_3 : vLI RX7 3 yX0_init cX0_init 5 4 := ⟨Or.inl vw_56, vw_57, vw_5, vw_58, rfl, ⟨by decide +kernel, by decide +kernel⟩, by decide +kernel⟩
theorem vw_80 : (Jvm.Cond.methodLink "HashTreeSigner$ShakeFamily" (7 : Nat) ({ cls := "HashTreeSigner$Family", name := "<init>", desc := "(LHashTreeSigner$Address;)V" } : Jvm.MethodName)) ∈ vGW := vGW_at 80 (by decide +kernel) (by decide +kernel)
theorem mX7_7 : vLI RX7 7 yX2_init cX2_init 2 1 := ⟨Or.inl vw_80, vw_81, vw_3, vw_82, rfl, ⟨by decide +kernel, by decide +kernel⟩, by decide +kernel⟩
theorem vw_87 : (Jvm.Cond.instanceMethod ({ cls := "HashTreeSigner$Sponge", name := "<init>", desc := "()V" } : Jvm.MethodName)) ∈ vGW := vGW_at 87 (by decide +kernel) (by decide +kernel)
theorem vw_6 : (Jvm.Cond.initialized "HashTreeSigner$Sponge") ∈ vGW := vGW_at 6 (by decide +kernel) (by decide +kernel)
set_option maxRecDepth 100000 in
theorem vw_88 : (Jvm.Cond.code ({ cls := "HashTreeSigner$Sponge", name := "<init>", desc := "()V" } : Jvm.MethodName) prog_11_method_1_code (1 : Nat) (Option.none : Option Jvm.ClassFile.FieldType)) ∈ vGW := vGW_at 88 rfl rfl
theorem mX7_14 : vLI RX7 14 yX9_init cX9_init 1 0 := ⟨Or.inr ⟨"HashTreeSigner", List.mem_of_getElem? (i := 0) rfl⟩, vw_87, vw_6, vw_88, rfl, ⟨by decide +kernel, by decide +kernel⟩, by decide +kernel⟩
theorem vw_909 : (Jvm.Cond.methodLink "HashTreeSigner$ShakeFamily" (23 : Nat) ({ cls := "HashTreeSigner$Sponge", name := "start", desc := "()V" } : Jvm.MethodName)) ∈ vGW := vGW_at 909 (by decide +kernel) (by decide +kernel)
theorem vw_910 : (Jvm.Cond.instanceMethod ({ cls := "HashTreeSigner$Sponge", name := "start", desc := "()V" } : Jvm.MethodName)) ∈ vGW := vGW_at 910 (by decide +kernel) (by decide +kernel)
theorem vw_911 : (Jvm.Cond.selects "HashTreeSigner$Sponge" ({ cls := "HashTreeSigner$Sponge", name := "start", desc := "()V" } : Jvm.MethodName) ({ cls := "HashTreeSigner$Sponge", name := "start", desc := "()V" } : Jvm.MethodName)) ∈ vGW := vGW_at 911 (by decide +kernel) (by decide +kernel)
set_option maxRecDepth 100000 in
theorem vw_912 : (Jvm.Cond.code ({ cls := "HashTreeSigner$Sponge", name := "start", desc := "()V" } : Jvm.MethodName) prog_11_method_2_code (1 : Nat) (Option.none : Option Jvm.ClassFile.FieldType)) ∈ vGW := vGW_at 912 rfl rfl
theorem mX7_23 : vLV RX7 23 yX9_start cX9_start 1 none 0 6 := ⟨⟨_, rfl, rfl⟩, Or.inl vw_909, vw_910, vw_911, vw_6, vw_912, ⟨by decide +kernel, by decide +kernel⟩, by decide +kernel⟩
theorem vw_916 : (Jvm.Cond.methodLink "HashTreeSigner$ShakeFamily" (34 : Nat) ({ cls := "HashTreeSigner$Sponge", name := "add", desc := "([BII)V" } : Jvm.MethodName)) ∈ vGW := vGW_at 916 (by decide +kernel) (by decide +kernel)
theorem vw_917 : (Jvm.Cond.instanceMethod ({ cls := "HashTreeSigner$Sponge", name := "add", desc := "([BII)V" } : Jvm.MethodName)) ∈ vGW := vGW_at 917 (by decide +kernel) (by decide +kernel)
theorem vw_918 : (Jvm.Cond.selects "HashTreeSigner$Sponge" ({ cls := "HashTreeSigner$Sponge", name := "add", desc := "([BII)V" } : Jvm.MethodName) ({ cls := "HashTreeSigner$Sponge", name := "add", desc := "([BII)V" } : Jvm.MethodName)) ∈ vGW := vGW_at 918 (by decide +kernel) (by decide +kernel)
set_option maxRecDepth 100000 in
theorem vw_919 : (Jvm.Cond.code ({ cls := "HashTreeSigner$Sponge", name := "add", desc := "([BII)V" } : Jvm.MethodName) prog_11_method_3_code (5 : Nat) (Option.none : Option Jvm.ClassFile.FieldType)) ∈ vGW := vGW_at 919 rfl rfl
theorem mX7_34 : vLV RX7 34 yX9_add cX9_add 5 none 3 6 := ⟨⟨_, rfl, rfl⟩, Or.inl vw_916, vw_917, vw_918, vw_6, vw_919, ⟨by decide +kernel, by decide +kernel⟩, by decide +kernel⟩
theorem vw_931 : (Jvm.Cond.methodLink "HashTreeSigner$ShakeFamily" (45 : Nat) ({ cls := "HashTreeSigner$Sponge", name := "finish", desc := "([BII)V" } : Jvm.MethodName)) ∈ vGW := vGW_at 931 (by decide +kernel) (by decide +kernel)
theorem vw_932 : (Jvm.Cond.instanceMethod ({ cls := "HashTreeSigner$Sponge", name := "finish", desc := "([BII)V" } : Jvm.MethodName)) ∈ vGW := vGW_at 932 (by decide +kernel) (by decide +kernel)
theorem vw_933 : (Jvm.Cond.selects "HashTreeSigner$Sponge" ({ cls := "HashTreeSigner$Sponge", name := "finish", desc := "([BII)V" } : Jvm.MethodName) ({ cls := "HashTreeSigner$Sponge", name := "finish", desc := "([BII)V" } : Jvm.MethodName)) ∈ vGW := vGW_at 933 (by decide +kernel) (by decide +kernel)
set_option maxRecDepth 100000 in
theorem vw_934 : (Jvm.Cond.code ({ cls := "HashTreeSigner$Sponge", name := "finish", desc := "([BII)V" } : Jvm.MethodName) prog_11_method_4_code (5 : Nat) (Option.none : Option Jvm.ClassFile.FieldType)) ∈ vGW := vGW_at 934 rfl rfl
theorem mX7_45 : vLV RX7 45 yX9_finish cX9_finish 5 none 3 6 := ⟨⟨_, rfl, rfl⟩, Or.inl vw_931, vw_932, vw_933, vw_6, vw_934, ⟨by decide +kernel, by decide +kernel⟩, by decide +kernel⟩
theorem vw_913 : (Jvm.Cond.methodLink "HashTreeSigner$Sponge" (20 : Nat) ({ cls := "java/util/Arrays", name := "fill", desc := "([JJ)V" } : Jvm.MethodName)) ∈ vGW := vGW_at 913 (by decide +kernel) (by decide +kernel)
theorem vw_914 : (Jvm.Cond.static ({ cls := "java/util/Arrays", name := "fill", desc := "([JJ)V" } : Jvm.MethodName)) ∈ vGW := vGW_at 914 (by decide +kernel) (by decide +kernel)
set_option maxRecDepth 100000 in
theorem vw_915 : (Jvm.Cond.code ({ cls := "java/util/Arrays", name := "fill", desc := "([JJ)V" } : Jvm.MethodName) prog_34_method_101_code (5 : Nat) (Option.none : Option Jvm.ClassFile.FieldType)) ∈ vGW := vGW_at 915 rfl rfl
theorem mX9_20 : vLS RX9 20 yJ7_fill_d0a16 cJ7_fill_d0a16 5 none 2 := ⟨Or.inl vw_913, vw_914, vw_10, vw_915, ⟨by decide +kernel, by decide +kernel⟩, by decide +kernel⟩
theorem vw_921 : (Jvm.Cond.methodLink "HashTreeSigner$Sponge" (27 : Nat) ({ cls := "HashTreeSigner$Sponge", name := "permute", desc := "()V" } : Jvm.MethodName)) ∈ vGW := vGW_at 921 (by decide +kernel) (by decide +kernel)
theorem vw_923 : (Jvm.Cond.instanceMethod ({ cls := "HashTreeSigner$Sponge", name := "permute", desc := "()V" } : Jvm.MethodName)) ∈ vGW := vGW_at 923 (by decide +kernel) (by decide +kernel)
theorem vs_7 : (Jvm.Cond.selects "HashTreeSigner$Sponge" ({ cls := "HashTreeSigner$Sponge", name := "permute", desc := "()V" } : Jvm.MethodName) ({ cls := "HashTreeSigner$Sponge", name := "permute", desc := "()V" } : Jvm.MethodName)) ∈ vGW := vGW_sel 7 (by decide +kernel) (by decide +kernel)
set_option maxRecDepth 100000 in
theorem vw_924 : (Jvm.Cond.code ({ cls := "HashTreeSigner$Sponge", name := "permute", desc := "()V" } : Jvm.MethodName) prog_11_method_5_code (23 : Nat) (Option.none : Option Jvm.ClassFile.FieldType)) ∈ vGW := vGW_at 924 rfl rfl
theorem mX9_27 : vLV RX9 27 yX9_permute cX9_permute 23 none 0 6 := ⟨⟨_, rfl, rfl⟩, Or.inl vw_921, vw_923, vs_7, vw_6, vw_924, ⟨by decide +kernel, by decide +kernel⟩, by decide +kernel⟩
theorem vw_925 : (Jvm.Cond.methodLink "HashTreeSigner$Sponge" (34 : Nat) ({ cls := "java/lang/Long", name := "rotateLeft", desc := "(JI)J" } : Jvm.MethodName)) ∈ vGW := vGW_at 925 (by decide +kernel) (by decide +kernel)
theorem vw_926 : (Jvm.Cond.static ({ cls := "java/lang/Long", name := "rotateLeft", desc := "(JI)J" } : Jvm.MethodName)) ∈ vGW := vGW_at 926 (by decide +kernel) (by decide +kernel)
set_option maxRecDepth 100000 in
theorem vw_927 : (Jvm.Cond.code ({ cls := "java/lang/Long", name := "rotateLeft", desc := "(JI)J" } : Jvm.MethodName) prog_24_method_51_code (3 : Nat) (Option.some Jvm.ClassFile.FieldType.long)) ∈ vGW := vGW_at 927 rfl rfl
theorem mX9_34 : vLS RX9 34 yJ13_rotateLeft_b2ac5 cJ13_rotateLeft_b2ac5 3 (some .long) 2 := ⟨Or.inl vw_925, vw_926, vw_33, vw_927, ⟨by decide +kernel, by decide +kernel⟩, by decide +kernel⟩
theorem vw_138 : (Jvm.Cond.methodLink "HashTreeSigner$Trees" (56 : Nat) ({ cls := "HashTreeSigner$Chains", name := "<init>", desc := "(LHashTreeSigner$Family;)V" } : Jvm.MethodName)) ∈ vGW := vGW_at 138 (by decide +kernel) (by decide +kernel)
theorem vw_139 : (Jvm.Cond.instanceMethod ({ cls := "HashTreeSigner$Chains", name := "<init>", desc := "(LHashTreeSigner$Family;)V" } : Jvm.MethodName)) ∈ vGW := vGW_at 139 (by decide +kernel) (by decide +kernel)
theorem vw_9 : (Jvm.Cond.initialized "HashTreeSigner$Chains") ∈ vGW := vGW_at 9 (by decide +kernel) (by decide +kernel)
set_option maxRecDepth 100000 in
theorem vw_140 : (Jvm.Cond.code ({ cls := "HashTreeSigner$Chains", name := "<init>", desc := "(LHashTreeSigner$Family;)V" } : Jvm.MethodName) prog_3_method_1_code (2 : Nat) (Option.none : Option Jvm.ClassFile.FieldType)) ∈ vGW := vGW_at 140 rfl rfl
theorem mX10_56 : vLI RX10 56 yX1_init cX1_init 2 1 := ⟨Or.inl vw_138, vw_139, vw_9, vw_140, rfl, ⟨by decide +kernel, by decide +kernel⟩, by decide +kernel⟩
theorem vw_799 : (Jvm.Cond.methodLink "HashTreeSigner$Trees" (64 : Nat) ({ cls := "HashTreeSigner$Chains", name := "open", desc := "(LHashTreeSigner$Sizes;)V" } : Jvm.MethodName)) ∈ vGW := vGW_at 799 (by decide +kernel) (by decide +kernel)
theorem vw_800 : (Jvm.Cond.instanceMethod ({ cls := "HashTreeSigner$Chains", name := "open", desc := "(LHashTreeSigner$Sizes;)V" } : Jvm.MethodName)) ∈ vGW := vGW_at 800 (by decide +kernel) (by decide +kernel)
theorem vw_801 : (Jvm.Cond.selects "HashTreeSigner$Chains" ({ cls := "HashTreeSigner$Chains", name := "open", desc := "(LHashTreeSigner$Sizes;)V" } : Jvm.MethodName) ({ cls := "HashTreeSigner$Chains", name := "open", desc := "(LHashTreeSigner$Sizes;)V" } : Jvm.MethodName)) ∈ vGW := vGW_at 801 (by decide +kernel) (by decide +kernel)
set_option maxRecDepth 100000 in
theorem vw_802 : (Jvm.Cond.code ({ cls := "HashTreeSigner$Chains", name := "open", desc := "(LHashTreeSigner$Sizes;)V" } : Jvm.MethodName) prog_3_method_2_code (2 : Nat) (Option.none : Option Jvm.ClassFile.FieldType)) ∈ vGW := vGW_at 802 rfl rfl
theorem mX10_64 : vLV RX10 64 yX1_open cX1_open 2 none 1 1 := ⟨⟨_, rfl, rfl⟩, Or.inl vw_799, vw_800, vw_801, vw_9, vw_802, ⟨by decide +kernel, by decide +kernel⟩, by decide +kernel⟩
theorem vw_804 : (Jvm.Cond.instanceMethod ({ cls := "HashTreeSigner$Family", name := "open", desc := "(I[BII)V" } : Jvm.MethodName)) ∈ vGW := vGW_at 804 (by decide +kernel) (by decide +kernel)
set_option maxRecDepth 100000 in
theorem vw_808 : (Jvm.Cond.code ({ cls := "HashTreeSigner$Family", name := "open", desc := "(I[BII)V" } : Jvm.MethodName) prog_4_method_2_code (5 : Nat) (Option.none : Option Jvm.ClassFile.FieldType)) ∈ vGW := vGW_at 808 rfl rfl
theorem vw_803 : (Jvm.Cond.methodLink "HashTreeSigner$Trees" (68 : Nat) ({ cls := "HashTreeSigner$Family", name := "open", desc := "(I[BII)V" } : Jvm.MethodName)) ∈ vGW := vGW_at 803 (by decide +kernel) (by decide +kernel)
theorem vw_805 : (Jvm.Cond.sameMethod "HashTreeSigner$Family" "HashTreeSigner$Family" "open" "(I[BII)V") ∈ vGW := vGW_at 805 (by decide +kernel) (by decide +kernel)
theorem vw_806 : (Jvm.Cond.selects "HashTreeSigner$Sha2Family" ({ cls := "HashTreeSigner$Family", name := "open", desc := "(I[BII)V" } : Jvm.MethodName) ({ cls := "HashTreeSigner$Family", name := "open", desc := "(I[BII)V" } : Jvm.MethodName)) ∈ vGW := vGW_at 806 (by decide +kernel) (by decide +kernel)
theorem mX10_68_X5 : vLU RX10 68 yX2_open yX2_open cX2_open 5 none 4 3 := ⟨_, "HashTreeSigner$Family", rfl, vw_803, vw_805, Or.inr ⟨_, _, _, vw_804, vw_808⟩, vw_806, vw_804, vw_3, vw_808, ⟨by decide +kernel, by decide +kernel⟩, by decide +kernel⟩
theorem vw_807 : (Jvm.Cond.selects "HashTreeSigner$ShakeFamily" ({ cls := "HashTreeSigner$Family", name := "open", desc := "(I[BII)V" } : Jvm.MethodName) ({ cls := "HashTreeSigner$Family", name := "open", desc := "(I[BII)V" } : Jvm.MethodName)) ∈ vGW := vGW_at 807 (by decide +kernel) (by decide +kernel)
theorem mX10_68_X7 : vLU RX10 68 yX2_open yX2_open cX2_open 5 none 4 5 := ⟨_, "HashTreeSigner$Family", rfl, vw_803, vw_805, Or.inr ⟨_, _, _, vw_804, vw_808⟩, vw_807, vw_804, vw_3, vw_808, ⟨by decide +kernel, by decide +kernel⟩, by decide +kernel⟩
theorem vw_1002 : (Jvm.Cond.methodLink "HashTreeSigner$Trees" (73 : Nat) ({ cls := "HashTreeSigner$Family", name := "randomize", desc := "([BI[BI[B)V" } : Jvm.MethodName)) ∈ vGW := vGW_at 1002 (by decide +kernel) (by decide +kernel)
theorem vw_1004 : (Jvm.Cond.sameMethod "HashTreeSigner$Family" "HashTreeSigner$Family" "randomize" "([BI[BI[B)V") ∈ vGW := vGW_at 1004 (by decide +kernel) (by decide +kernel)
theorem vw_1005 : (Jvm.Cond.selects "HashTreeSigner$Sha2Family" ({ cls := "HashTreeSigner$Family", name := "randomize", desc := "([BI[BI[B)V" } : Jvm.MethodName) ({ cls := "HashTreeSigner$Sha2Family", name := "randomize", desc := "([BI[BI[B)V" } : Jvm.MethodName)) ∈ vGW := vGW_at 1005 (by decide +kernel) (by decide +kernel)
theorem vw_1006 : (Jvm.Cond.instanceMethod ({ cls := "HashTreeSigner$Sha2Family", name := "randomize", desc := "([BI[BI[B)V" } : Jvm.MethodName)) ∈ vGW := vGW_at 1006 (by decide +kernel) (by decide +kernel)
set_option maxRecDepth 100000 in
theorem vw_1007 : (Jvm.Cond.code ({ cls := "HashTreeSigner$Sha2Family", name := "randomize", desc := "([BI[BI[B)V" } : Jvm.MethodName) prog_7_method_4_code (7 : Nat) (Option.none : Option Jvm.ClassFile.FieldType)) ∈ vGW := vGW_at 1007 rfl rfl
theorem mX10_73_X5 : vLU RX10 73 ({ cls := "HashTreeSigner$Family", name := "randomize", desc := "([BI[BI[B)V" } : Jvm.MethodName) yX5_randomize cX5_randomize 7 none 5 3 := ⟨_, "HashTreeSigner$Family", rfl, vw_1002, vw_1004, Or.inl (List.mem_of_getElem? (i := 10) rfl), vw_1005, vw_1006, vw_11, vw_1007, ⟨by decide +kernel, by decide +kernel⟩, by decide +kernel⟩
theorem vw_1016 : (Jvm.Cond.selects "HashTreeSigner$ShakeFamily" ({ cls := "HashTreeSigner$Family", name := "randomize", desc := "([BI[BI[B)V" } : Jvm.MethodName) ({ cls := "HashTreeSigner$ShakeFamily", name := "randomize", desc := "([BI[BI[B)V" } : Jvm.MethodName)) ∈ vGW := vGW_at 1016 (by decide +kernel) (by decide +kernel)
theorem vw_1017 : (Jvm.Cond.instanceMethod ({ cls := "HashTreeSigner$ShakeFamily", name := "randomize", desc := "([BI[BI[B)V" } : Jvm.MethodName)) ∈ vGW := vGW_at 1017 (by decide +kernel) (by decide +kernel)
set_option maxRecDepth 100000 in
theorem vw_1018 : (Jvm.Cond.code ({ cls := "HashTreeSigner$ShakeFamily", name := "randomize", desc := "([BI[BI[B)V" } : Jvm.MethodName) prog_9_method_4_code (6 : Nat) (Option.none : Option Jvm.ClassFile.FieldType)) ∈ vGW := vGW_at 1018 rfl rfl
theorem mX10_73_X7 : vLU RX10 73 ({ cls := "HashTreeSigner$Family", name := "randomize", desc := "([BI[BI[B)V" } : Jvm.MethodName) yX7_randomize cX7_randomize 6 none 5 5 := ⟨_, "HashTreeSigner$Family", rfl, vw_1002, vw_1004, Or.inl (List.mem_of_getElem? (i := 10) rfl), vw_1016, vw_1017, vw_4, vw_1018, ⟨by decide +kernel, by decide +kernel⟩, by decide +kernel⟩
theorem vw_1023 : (Jvm.Cond.methodLink "HashTreeSigner$Trees" (86 : Nat) ({ cls := "HashTreeSigner$Family", name := "digest", desc := "([B[BI[BI)V" } : Jvm.MethodName)) ∈ vGW := vGW_at 1023 (by decide +kernel) (by decide +kernel)
theorem vw_1025 : (Jvm.Cond.sameMethod "HashTreeSigner$Family" "HashTreeSigner$Family" "digest" "([B[BI[BI)V") ∈ vGW := vGW_at 1025 (by decide +kernel) (by decide +kernel)
theorem vw_1026 : (Jvm.Cond.selects "HashTreeSigner$Sha2Family" ({ cls := "HashTreeSigner$Family", name := "digest", desc := "([B[BI[BI)V" } : Jvm.MethodName) ({ cls := "HashTreeSigner$Sha2Family", name := "digest", desc := "([B[BI[BI)V" } : Jvm.MethodName)) ∈ vGW := vGW_at 1026 (by decide +kernel) (by decide +kernel)
theorem vw_1027 : (Jvm.Cond.instanceMethod ({ cls := "HashTreeSigner$Sha2Family", name := "digest", desc := "([B[BI[BI)V" } : Jvm.MethodName)) ∈ vGW := vGW_at 1027 (by decide +kernel) (by decide +kernel)
set_option maxRecDepth 100000 in
theorem vw_1028 : (Jvm.Cond.code ({ cls := "HashTreeSigner$Sha2Family", name := "digest", desc := "([B[BI[BI)V" } : Jvm.MethodName) prog_7_method_5_code (9 : Nat) (Option.none : Option Jvm.ClassFile.FieldType)) ∈ vGW := vGW_at 1028 rfl rfl
theorem mX10_86_X5 : vLU RX10 86 ({ cls := "HashTreeSigner$Family", name := "digest", desc := "([B[BI[BI)V" } : Jvm.MethodName) yX5_digest cX5_digest 9 none 5 3 := ⟨_, "HashTreeSigner$Family", rfl, vw_1023, vw_1025, Or.inl (List.mem_of_getElem? (i := 11) rfl), vw_1026, vw_1027, vw_11, vw_1028, ⟨by decide +kernel, by decide +kernel⟩, by decide +kernel⟩
theorem vw_1030 : (Jvm.Cond.selects "HashTreeSigner$ShakeFamily" ({ cls := "HashTreeSigner$Family", name := "digest", desc := "([B[BI[BI)V" } : Jvm.MethodName) ({ cls := "HashTreeSigner$ShakeFamily", name := "digest", desc := "([B[BI[BI)V" } : Jvm.MethodName)) ∈ vGW := vGW_at 1030 (by decide +kernel) (by decide +kernel)
theorem vw_1031 : (Jvm.Cond.instanceMethod ({ cls := "HashTreeSigner$ShakeFamily", name := "digest", desc := "([B[BI[BI)V" } : Jvm.MethodName)) ∈ vGW := vGW_at 1031 (by decide +kernel) (by decide +kernel)
set_option maxRecDepth 100000 in
theorem vw_1032 : (Jvm.Cond.code ({ cls := "HashTreeSigner$ShakeFamily", name := "digest", desc := "([B[BI[BI)V" } : Jvm.MethodName) prog_9_method_5_code (6 : Nat) (Option.none : Option Jvm.ClassFile.FieldType)) ∈ vGW := vGW_at 1032 rfl rfl
theorem mX10_86_X7 : vLU RX10 86 ({ cls := "HashTreeSigner$Family", name := "digest", desc := "([B[BI[BI)V" } : Jvm.MethodName) yX7_digest cX7_digest 6 none 5 5 := ⟨_, "HashTreeSigner$Family", rfl, vw_1023, vw_1025, Or.inl (List.mem_of_getElem? (i := 11) rfl), vw_1030, vw_1031, vw_4, vw_1032, ⟨by decide +kernel, by decide +kernel⟩, by decide +kernel⟩
theorem vw_1034 : (Jvm.Cond.methodLink "HashTreeSigner$Trees" (94 : Nat) ({ cls := "HashTreeSigner$Trees", name := "number", desc := "(II)J" } : Jvm.MethodName)) ∈ vGW := vGW_at 1034 (by decide +kernel) (by decide +kernel)
theorem vw_1036 : (Jvm.Cond.instanceMethod ({ cls := "HashTreeSigner$Trees", name := "number", desc := "(II)J" } : Jvm.MethodName)) ∈ vGW := vGW_at 1036 (by decide +kernel) (by decide +kernel)
theorem vs_13 : (Jvm.Cond.selects "HashTreeSigner$Trees" ({ cls := "HashTreeSigner$Trees", name := "number", desc := "(II)J" } : Jvm.MethodName) ({ cls := "HashTreeSigner$Trees", name := "number", desc := "(II)J" } : Jvm.MethodName)) ∈ vGW := vGW_sel 13 (by decide +kernel) (by decide +kernel)
set_option maxRecDepth 100000 in
theorem vw_1037 : (Jvm.Cond.code ({ cls := "HashTreeSigner$Trees", name := "number", desc := "(II)J" } : Jvm.MethodName) prog_12_method_15_code (6 : Nat) (Option.some Jvm.ClassFile.FieldType.long)) ∈ vGW := vGW_at 1037 rfl rfl
theorem mX10_94 : vLV RX10 94 yX10_number cX10_number 6 (some .long) 2 7 := ⟨⟨_, rfl, rfl⟩, Or.inl vw_1034, vw_1036, vs_13, vw_2, vw_1037, ⟨by decide +kernel, by decide +kernel⟩, by decide +kernel⟩
theorem vw_866 : (Jvm.Cond.methodLink "HashTreeSigner$Trees" (105 : Nat) ({ cls := "HashTreeSigner$Address", name := "place", desc := "(IJ)V" } : Jvm.MethodName)) ∈ vGW := vGW_at 866 (by decide +kernel) (by decide +kernel)
theorem vw_867 : (Jvm.Cond.instanceMethod ({ cls := "HashTreeSigner$Address", name := "place", desc := "(IJ)V" } : Jvm.MethodName)) ∈ vGW := vGW_at 867 (by decide +kernel) (by decide +kernel)
theorem vw_868 : (Jvm.Cond.selects "HashTreeSigner$Address" ({ cls := "HashTreeSigner$Address", name := "place", desc := "(IJ)V" } : Jvm.MethodName) ({ cls := "HashTreeSigner$Address", name := "place", desc := "(IJ)V" } : Jvm.MethodName)) ∈ vGW := vGW_at 868 (by decide +kernel) (by decide +kernel)
set_option maxRecDepth 100000 in
theorem vw_869 : (Jvm.Cond.code ({ cls := "HashTreeSigner$Address", name := "place", desc := "(IJ)V" } : Jvm.MethodName) prog_2_method_2_code (5 : Nat) (Option.none : Option Jvm.ClassFile.FieldType)) ∈ vGW := vGW_at 869 rfl rfl
theorem mX10_105 : vLV RX10 105 yX0_place cX0_place 5 none 2 0 := ⟨⟨_, rfl, rfl⟩, Or.inl vw_866, vw_867, vw_868, vw_5, vw_869, ⟨by decide +kernel, by decide +kernel⟩, by decide +kernel⟩
theorem vw_1042 : (Jvm.Cond.methodLink "HashTreeSigner$Trees" (109 : Nat) ({ cls := "HashTreeSigner$Trees", name := "enterForest", desc := "()V" } : Jvm.MethodName)) ∈ vGW := vGW_at 1042 (by decide +kernel) (by decide +kernel)
theorem vw_1044 : (Jvm.Cond.instanceMethod ({ cls := "HashTreeSigner$Trees", name := "enterForest", desc := "()V" } : Jvm.MethodName)) ∈ vGW := vGW_at 1044 (by decide +kernel) (by decide +kernel)
theorem vs_14 : (Jvm.Cond.selects "HashTreeSigner$Trees" ({ cls := "HashTreeSigner$Trees", name := "enterForest", desc := "()V" } : Jvm.MethodName) ({ cls := "HashTreeSigner$Trees", name := "enterForest", desc := "()V" } : Jvm.MethodName)) ∈ vGW := vGW_sel 14 (by decide +kernel) (by decide +kernel)
set_option maxRecDepth 100000 in
theorem vw_1045 : (Jvm.Cond.code ({ cls := "HashTreeSigner$Trees", name := "enterForest", desc := "()V" } : Jvm.MethodName) prog_12_method_13_code (1 : Nat) (Option.none : Option Jvm.ClassFile.FieldType)) ∈ vGW := vGW_at 1045 rfl rfl
theorem mX10_109 : vLV RX10 109 yX10_enterForest cX10_enterForest 1 none 0 7 := ⟨⟨_, rfl, rfl⟩, Or.inl vw_1042, vw_1044, vs_14, vw_2, vw_1045, ⟨by decide +kernel, by decide +kernel⟩, by decide +kernel⟩
theorem vw_1046 : (Jvm.Cond.methodLink "HashTreeSigner$Trees" (115 : Nat) ({ cls := "HashTreeSigner$Trees", name := "chosen", desc := "(I)I" } : Jvm.MethodName)) ∈ vGW := vGW_at 1046 (by decide +kernel) (by decide +kernel)
theorem vw_1048 : (Jvm.Cond.instanceMethod ({ cls := "HashTreeSigner$Trees", name := "chosen", desc := "(I)I" } : Jvm.MethodName)) ∈ vGW := vGW_at 1048 (by decide +kernel) (by decide +kernel)
theorem vs_15 : (Jvm.Cond.selects "HashTreeSigner$Trees" ({ cls := "HashTreeSigner$Trees", name := "chosen", desc := "(I)I" } : Jvm.MethodName) ({ cls := "HashTreeSigner$Trees", name := "chosen", desc := "(I)I" } : Jvm.MethodName)) ∈ vGW := vGW_sel 15 (by decide +kernel) (by decide +kernel)
set_option maxRecDepth 100000 in
theorem vw_1049 : (Jvm.Cond.code ({ cls := "HashTreeSigner$Trees", name := "chosen", desc := "(I)I" } : Jvm.MethodName) prog_12_method_14_code (4 : Nat) (Option.some Jvm.ClassFile.FieldType.int)) ∈ vGW := vGW_at 1049 rfl rfl
theorem mX10_115 : vLV RX10 115 yX10_chosen cX10_chosen 4 (some .int) 1 7 := ⟨⟨_, rfl, rfl⟩, Or.inl vw_1046, vw_1048, vs_15, vw_2, vw_1049, ⟨by decide +kernel, by decide +kernel⟩, by decide +kernel⟩
theorem vw_878 : (Jvm.Cond.methodLink "HashTreeSigner$Trees" (119 : Nat) ({ cls := "HashTreeSigner$Address", name := "name", desc := "(IIII)V" } : Jvm.MethodName)) ∈ vGW := vGW_at 878 (by decide +kernel) (by decide +kernel)
theorem mX10_119 : vLV RX10 119 yX0_name cX0_name 5 none 4 0 := ⟨⟨_, rfl, rfl⟩, Or.inl vw_878, vw_879, vw_880, vw_5, vw_881, ⟨by decide +kernel, by decide +kernel⟩, by decide +kernel⟩
theorem vw_886 : (Jvm.Cond.methodLink "HashTreeSigner$Trees" (126 : Nat) ({ cls := "HashTreeSigner$Family", name := "f", desc := "([BII[BI)V" } : Jvm.MethodName)) ∈ vGW := vGW_at 886 (by decide +kernel) (by decide +kernel)
theorem mX10_126_X5 : vLU RX10 126 ({ cls := "HashTreeSigner$Family", name := "f", desc := "([BII[BI)V" } : Jvm.MethodName) yX5_f cX5_f 7 none 5 3 := ⟨_, "HashTreeSigner$Family", rfl, vw_886, vw_888, Or.inl (List.mem_of_getElem? (i := 9) rfl), vw_889, vw_890, vw_11, vw_891, ⟨by decide +kernel, by decide +kernel⟩, by decide +kernel⟩
theorem mX10_126_X7 : vLU RX10 126 ({ cls := "HashTreeSigner$Family", name := "f", desc := "([BII[BI)V" } : Jvm.MethodName) yX7_f cX7_f 6 none 5 5 := ⟨_, "HashTreeSigner$Family", rfl, vw_886, vw_888, Or.inl (List.mem_of_getElem? (i := 9) rfl), vw_906, vw_907, vw_4, vw_908, ⟨by decide +kernel, by decide +kernel⟩, by decide +kernel⟩
theorem vw_1050 : (Jvm.Cond.methodLink "HashTreeSigner$Trees" (133 : Nat) ({ cls := "HashTreeSigner$Trees", name := "node", desc := "(II[BI)V" } : Jvm.MethodName)) ∈ vGW := vGW_at 1050 (by decide +kernel) (by decide +kernel)
theorem mX10_133 : vLV RX10 133 yX10_node cX10_node 8 none 4 7 := ⟨⟨_, rfl, rfl⟩, Or.inl vw_1050, vw_871, vw_872, vw_2, vw_873, ⟨by decide +kernel, by decide +kernel⟩, by decide +kernel⟩
theorem vw_1051 : (Jvm.Cond.methodLink "HashTreeSigner$Trees" (137 : Nat) ({ cls := "HashTreeSigner$Trees", name := "forestRoot", desc := "([BI)I" } : Jvm.MethodName)) ∈ vGW := vGW_at 1051 (by decide +kernel) (by decide +kernel)
theorem mX10_137 : vLV RX10 137 yX10_forestRoot cX10_forestRoot 6 (some .int) 2 7 := ⟨⟨_, rfl, rfl⟩, Or.inl vw_1051, vw_1052, vw_1053, vw_2, vw_1054, ⟨by decide +kernel, by decide +kernel⟩, by decide +kernel⟩
theorem vw_1055 : (Jvm.Cond.methodLink "HashTreeSigner$Trees" (141 : Nat) ({ cls := "HashTreeSigner$Trees", name := "climb", desc := "(II[BI[BI)V" } : Jvm.MethodName)) ∈ vGW := vGW_at 1055 (by decide +kernel) (by decide +kernel)
theorem vw_1057 : (Jvm.Cond.instanceMethod ({ cls := "HashTreeSigner$Trees", name := "climb", desc := "(II[BI[BI)V" } : Jvm.MethodName)) ∈ vGW := vGW_at 1057 (by decide +kernel) (by decide +kernel)
theorem vs_16 : (Jvm.Cond.selects "HashTreeSigner$Trees" ({ cls := "HashTreeSigner$Trees", name := "climb", desc := "(II[BI[BI)V" } : Jvm.MethodName) ({ cls := "HashTreeSigner$Trees", name := "climb", desc := "(II[BI[BI)V" } : Jvm.MethodName)) ∈ vGW := vGW_sel 16 (by decide +kernel) (by decide +kernel)
set_option maxRecDepth 100000 in
theorem vw_1058 : (Jvm.Cond.code ({ cls := "HashTreeSigner$Trees", name := "climb", desc := "(II[BI[BI)V" } : Jvm.MethodName) prog_12_method_11_code (10 : Nat) (Option.none : Option Jvm.ClassFile.FieldType)) ∈ vGW := vGW_at 1058 rfl rfl
theorem mX10_141 : vLV RX10 141 yX10_climb cX10_climb 10 none 6 7 := ⟨⟨_, rfl, rfl⟩, Or.inl vw_1055, vw_1057, vs_16, vw_2, vw_1058, ⟨by decide +kernel, by decide +kernel⟩, by decide +kernel⟩
theorem vw_1063 : (Jvm.Cond.methodLink "HashTreeSigner$Trees" (145 : Nat) ({ cls := "HashTreeSigner$Trees", name := "enterLayer", desc := "(IJ)V" } : Jvm.MethodName)) ∈ vGW := vGW_at 1063 (by decide +kernel) (by decide +kernel)
theorem mX10_145 : vLV RX10 145 yX10_enterLayer cX10_enterLayer 4 none 2 7 := ⟨⟨_, rfl, rfl⟩, Or.inl vw_1063, vw_863, vw_864, vw_2, vw_865, ⟨by decide +kernel, by decide +kernel⟩, by decide +kernel⟩
theorem vw_1064 : (Jvm.Cond.methodLink "HashTreeSigner$Trees" (148 : Nat) ({ cls := "HashTreeSigner$Chains", name := "setDigits", desc := "([B)V" } : Jvm.MethodName)) ∈ vGW := vGW_at 1064 (by decide +kernel) (by decide +kernel)
theorem vw_1065 : (Jvm.Cond.instanceMethod ({ cls := "HashTreeSigner$Chains", name := "setDigits", desc := "([B)V" } : Jvm.MethodName)) ∈ vGW := vGW_at 1065 (by decide +kernel) (by decide +kernel)
theorem vw_1066 : (Jvm.Cond.selects "HashTreeSigner$Chains" ({ cls := "HashTreeSigner$Chains", name := "setDigits", desc := "([B)V" } : Jvm.MethodName) ({ cls := "HashTreeSigner$Chains", name := "setDigits", desc := "([B)V" } : Jvm.MethodName)) ∈ vGW := vGW_at 1066 (by decide +kernel) (by decide +kernel)
set_option maxRecDepth 100000 in
theorem vw_1067 : (Jvm.Cond.code ({ cls := "HashTreeSigner$Chains", name := "setDigits", desc := "([B)V" } : Jvm.MethodName) prog_3_method_3_code (4 : Nat) (Option.none : Option Jvm.ClassFile.FieldType)) ∈ vGW := vGW_at 1067 rfl rfl
theorem mX10_148 : vLV RX10 148 yX1_setDigits cX1_setDigits 4 none 1 1 := ⟨⟨_, rfl, rfl⟩, Or.inl vw_1064, vw_1065, vw_1066, vw_9, vw_1067, ⟨by decide +kernel, by decide +kernel⟩, by decide +kernel⟩
theorem vw_937 : (Jvm.Cond.methodLink "HashTreeSigner$Trees" (152 : Nat) ({ cls := "HashTreeSigner$Chains", name := "begin", desc := "(I[BI)V" } : Jvm.MethodName)) ∈ vGW := vGW_at 937 (by decide +kernel) (by decide +kernel)
theorem vw_938 : (Jvm.Cond.instanceMethod ({ cls := "HashTreeSigner$Chains", name := "begin", desc := "(I[BI)V" } : Jvm.MethodName)) ∈ vGW := vGW_at 938 (by decide +kernel) (by decide +kernel)
theorem vw_939 : (Jvm.Cond.selects "HashTreeSigner$Chains" ({ cls := "HashTreeSigner$Chains", name := "begin", desc := "(I[BI)V" } : Jvm.MethodName) ({ cls := "HashTreeSigner$Chains", name := "begin", desc := "(I[BI)V" } : Jvm.MethodName)) ∈ vGW := vGW_at 939 (by decide +kernel) (by decide +kernel)
set_option maxRecDepth 100000 in
theorem vw_940 : (Jvm.Cond.code ({ cls := "HashTreeSigner$Chains", name := "begin", desc := "(I[BI)V" } : Jvm.MethodName) prog_3_method_4_code (5 : Nat) (Option.none : Option Jvm.ClassFile.FieldType)) ∈ vGW := vGW_at 940 rfl rfl
theorem mX10_152 : vLV RX10 152 yX1_begin cX1_begin 5 none 3 1 := ⟨⟨_, rfl, rfl⟩, Or.inl vw_937, vw_938, vw_939, vw_9, vw_940, ⟨by decide +kernel, by decide +kernel⟩, by decide +kernel⟩
theorem vw_943 : (Jvm.Cond.methodLink "HashTreeSigner$Trees" (163 : Nat) ({ cls := "HashTreeSigner$Chains", name := "walk", desc := "(I[I[I[BI)V" } : Jvm.MethodName)) ∈ vGW := vGW_at 943 (by decide +kernel) (by decide +kernel)
theorem vw_944 : (Jvm.Cond.instanceMethod ({ cls := "HashTreeSigner$Chains", name := "walk", desc := "(I[I[I[BI)V" } : Jvm.MethodName)) ∈ vGW := vGW_at 944 (by decide +kernel) (by decide +kernel)
theorem vw_945 : (Jvm.Cond.selects "HashTreeSigner$Chains" ({ cls := "HashTreeSigner$Chains", name := "walk", desc := "(I[I[I[BI)V" } : Jvm.MethodName) ({ cls := "HashTreeSigner$Chains", name := "walk", desc := "(I[I[I[BI)V" } : Jvm.MethodName)) ∈ vGW := vGW_at 945 (by decide +kernel) (by decide +kernel)
set_option maxRecDepth 100000 in
theorem vw_946 : (Jvm.Cond.code ({ cls := "HashTreeSigner$Chains", name := "walk", desc := "(I[I[I[BI)V" } : Jvm.MethodName) prog_3_method_5_code (9 : Nat) (Option.none : Option Jvm.ClassFile.FieldType)) ∈ vGW := vGW_at 946 rfl rfl
theorem mX10_163 : vLV RX10 163 yX1_walk cX1_walk 9 none 5 1 := ⟨⟨_, rfl, rfl⟩, Or.inl vw_943, vw_944, vw_945, vw_9, vw_946, ⟨by decide +kernel, by decide +kernel⟩, by decide +kernel⟩
theorem vw_1068 : (Jvm.Cond.methodLink "HashTreeSigner$Trees" (169 : Nat) ({ cls := "HashTreeSigner$Trees", name := "layerRoot", desc := "(I[BI)I" } : Jvm.MethodName)) ∈ vGW := vGW_at 1068 (by decide +kernel) (by decide +kernel)
theorem mX10_169 : vLV RX10 169 yX10_layerRoot cX10_layerRoot 5 (some .int) 3 7 := ⟨⟨_, rfl, rfl⟩, Or.inl vw_1068, vw_1069, vw_1070, vw_2, vw_1071, ⟨by decide +kernel, by decide +kernel⟩, by decide +kernel⟩
theorem vw_951 : (Jvm.Cond.methodLink "HashTreeSigner$Trees" (185 : Nat) ({ cls := "HashTreeSigner$Chains", name := "close", desc := "(I[BI)V" } : Jvm.MethodName)) ∈ vGW := vGW_at 951 (by decide +kernel) (by decide +kernel)
theorem vw_952 : (Jvm.Cond.instanceMethod ({ cls := "HashTreeSigner$Chains", name := "close", desc := "(I[BI)V" } : Jvm.MethodName)) ∈ vGW := vGW_at 952 (by decide +kernel) (by decide +kernel)
theorem vw_953 : (Jvm.Cond.selects "HashTreeSigner$Chains" ({ cls := "HashTreeSigner$Chains", name := "close", desc := "(I[BI)V" } : Jvm.MethodName) ({ cls := "HashTreeSigner$Chains", name := "close", desc := "(I[BI)V" } : Jvm.MethodName)) ∈ vGW := vGW_at 953 (by decide +kernel) (by decide +kernel)
set_option maxRecDepth 100000 in
theorem vw_954 : (Jvm.Cond.code ({ cls := "HashTreeSigner$Chains", name := "close", desc := "(I[BI)V" } : Jvm.MethodName) prog_3_method_6_code (4 : Nat) (Option.none : Option Jvm.ClassFile.FieldType)) ∈ vGW := vGW_at 954 rfl rfl
theorem mX10_185 : vLV RX10 185 yX1_close cX1_close 4 none 3 1 := ⟨⟨_, rfl, rfl⟩, Or.inl vw_951, vw_952, vw_953, vw_9, vw_954, ⟨by decide +kernel, by decide +kernel⟩, by decide +kernel⟩
theorem vw_874 : (Jvm.Cond.methodLink "HashTreeSigner$Trees" (188 : Nat) ({ cls := "HashTreeSigner$Trees", name := "forestLeaf", desc := "(II)V" } : Jvm.MethodName)) ∈ vGW := vGW_at 874 (by decide +kernel) (by decide +kernel)
theorem vw_876 : (Jvm.Cond.instanceMethod ({ cls := "HashTreeSigner$Trees", name := "forestLeaf", desc := "(II)V" } : Jvm.MethodName)) ∈ vGW := vGW_at 876 (by decide +kernel) (by decide +kernel)
theorem vs_5 : (Jvm.Cond.selects "HashTreeSigner$Trees" ({ cls := "HashTreeSigner$Trees", name := "forestLeaf", desc := "(II)V" } : Jvm.MethodName) ({ cls := "HashTreeSigner$Trees", name := "forestLeaf", desc := "(II)V" } : Jvm.MethodName)) ∈ vGW := vGW_sel 5 (by decide +kernel) (by decide +kernel)
set_option maxRecDepth 100000 in
theorem vw_877 : (Jvm.Cond.code ({ cls := "HashTreeSigner$Trees", name := "forestLeaf", desc := "(II)V" } : Jvm.MethodName) prog_12_method_12_code (3 : Nat) (Option.none : Option Jvm.ClassFile.FieldType)) ∈ vGW := vGW_at 877 rfl rfl
theorem mX10_188 : vLV RX10 188 yX10_forestLeaf cX10_forestLeaf 3 none 2 7 := ⟨⟨_, rfl, rfl⟩, Or.inl vw_874, vw_876, vs_5, vw_2, vw_877, ⟨by decide +kernel, by decide +kernel⟩, by decide +kernel⟩
theorem vw_325 : (Jvm.Cond.methodLink "HashTreeSignerLaw" (7 : Nat) ({ cls := "HashTreeSigner", name := "feed", desc := "(IIIII)I" } : Jvm.MethodName)) ∈ vGW := vGW_at 325 (by decide +kernel) (by decide +kernel)
theorem vw_326 : (Jvm.Cond.instanceMethod ({ cls := "HashTreeSigner", name := "feed", desc := "(IIIII)I" } : Jvm.MethodName)) ∈ vGW := vGW_at 326 (by decide +kernel) (by decide +kernel)
theorem vw_327 : (Jvm.Cond.selects "HashTreeSigner" ({ cls := "HashTreeSigner", name := "feed", desc := "(IIIII)I" } : Jvm.MethodName) ({ cls := "HashTreeSigner", name := "feed", desc := "(IIIII)I" } : Jvm.MethodName)) ∈ vGW := vGW_at 327 (by decide +kernel) (by decide +kernel)
set_option maxRecDepth 100000 in
theorem vw_328 : (Jvm.Cond.code ({ cls := "HashTreeSigner", name := "feed", desc := "(IIIII)I" } : Jvm.MethodName) prog_1_method_2_code (6 : Nat) (Option.some Jvm.ClassFile.FieldType.int)) ∈ vGW := vGW_at 328 rfl rfl
theorem mL_7 : vLV RL 7 yX11_feed cX11_feed 6 (some .int) 5 8 := ⟨⟨_, rfl, rfl⟩, Or.inl vw_325, vw_326, vw_327, vw_1, vw_328, ⟨by decide +kernel, by decide +kernel⟩, by decide +kernel⟩
theorem vw_407 : (Jvm.Cond.methodLink "HashTreeSignerLaw" (15 : Nat) ({ cls := "HashTreeSigner", name := "end", desc := "(II)I" } : Jvm.MethodName)) ∈ vGW := vGW_at 407 (by decide +kernel) (by decide +kernel)
theorem vw_408 : (Jvm.Cond.instanceMethod ({ cls := "HashTreeSigner", name := "end", desc := "(II)I" } : Jvm.MethodName)) ∈ vGW := vGW_at 408 (by decide +kernel) (by decide +kernel)
theorem vw_409 : (Jvm.Cond.selects "HashTreeSigner" ({ cls := "HashTreeSigner", name := "end", desc := "(II)I" } : Jvm.MethodName) ({ cls := "HashTreeSigner", name := "end", desc := "(II)I" } : Jvm.MethodName)) ∈ vGW := vGW_at 409 (by decide +kernel) (by decide +kernel)
set_option maxRecDepth 100000 in
theorem vw_410 : (Jvm.Cond.code ({ cls := "HashTreeSigner", name := "end", desc := "(II)I" } : Jvm.MethodName) prog_1_method_3_code (3 : Nat) (Option.some Jvm.ClassFile.FieldType.int)) ∈ vGW := vGW_at 410 rfl rfl
theorem mL_15 : vLV RL 15 yX11_end cX11_end 3 (some .int) 2 8 := ⟨⟨_, rfl, rfl⟩, Or.inl vw_407, vw_408, vw_409, vw_1, vw_410, ⟨by decide +kernel, by decide +kernel⟩, by decide +kernel⟩
theorem vw_445 : (Jvm.Cond.methodLink "HashTreeSignerLaw" (21 : Nat) ({ cls := "HashTreeSigner", name := "copy", desc := "(II)I" } : Jvm.MethodName)) ∈ vGW := vGW_at 445 (by decide +kernel) (by decide +kernel)
theorem vw_446 : (Jvm.Cond.instanceMethod ({ cls := "HashTreeSigner", name := "copy", desc := "(II)I" } : Jvm.MethodName)) ∈ vGW := vGW_at 446 (by decide +kernel) (by decide +kernel)
theorem vw_447 : (Jvm.Cond.selects "HashTreeSigner" ({ cls := "HashTreeSigner", name := "copy", desc := "(II)I" } : Jvm.MethodName) ({ cls := "HashTreeSigner", name := "copy", desc := "(II)I" } : Jvm.MethodName)) ∈ vGW := vGW_at 447 (by decide +kernel) (by decide +kernel)
set_option maxRecDepth 100000 in
theorem vw_448 : (Jvm.Cond.code ({ cls := "HashTreeSigner", name := "copy", desc := "(II)I" } : Jvm.MethodName) prog_1_method_4_code (3 : Nat) (Option.some Jvm.ClassFile.FieldType.int)) ∈ vGW := vGW_at 448 rfl rfl
theorem mL_21 : vLV RL 21 yX11_copy cX11_copy 3 (some .int) 2 8 := ⟨⟨_, rfl, rfl⟩, Or.inl vw_445, vw_446, vw_447, vw_1, vw_448, ⟨by decide +kernel, by decide +kernel⟩, by decide +kernel⟩
theorem vw_452 : (Jvm.Cond.methodLink "HashTreeSignerLaw" (24 : Nat) ({ cls := "HashTreeSigner", name := "resize", desc := "(II)I" } : Jvm.MethodName)) ∈ vGW := vGW_at 452 (by decide +kernel) (by decide +kernel)
theorem vw_453 : (Jvm.Cond.instanceMethod ({ cls := "HashTreeSigner", name := "resize", desc := "(II)I" } : Jvm.MethodName)) ∈ vGW := vGW_at 453 (by decide +kernel) (by decide +kernel)
theorem vw_454 : (Jvm.Cond.selects "HashTreeSigner" ({ cls := "HashTreeSigner", name := "resize", desc := "(II)I" } : Jvm.MethodName) ({ cls := "HashTreeSigner", name := "resize", desc := "(II)I" } : Jvm.MethodName)) ∈ vGW := vGW_at 454 (by decide +kernel) (by decide +kernel)
set_option maxRecDepth 100000 in
theorem vw_455 : (Jvm.Cond.code ({ cls := "HashTreeSigner", name := "resize", desc := "(II)I" } : Jvm.MethodName) prog_1_method_5_code (4 : Nat) (Option.some Jvm.ClassFile.FieldType.int)) ∈ vGW := vGW_at 455 rfl rfl
theorem mL_24 : vLV RL 24 yX11_resize cX11_resize 4 (some .int) 2 8 := ⟨⟨_, rfl, rfl⟩, Or.inl vw_452, vw_453, vw_454, vw_1, vw_455, ⟨by decide +kernel, by decide +kernel⟩, by decide +kernel⟩
theorem vw_724 : (Jvm.Cond.methodLink "HashTreeSignerLaw" (27 : Nat) ({ cls := "HashTreeSigner", name := "alter", desc := "(III)I" } : Jvm.MethodName)) ∈ vGW := vGW_at 724 (by decide +kernel) (by decide +kernel)
theorem vw_725 : (Jvm.Cond.instanceMethod ({ cls := "HashTreeSigner", name := "alter", desc := "(III)I" } : Jvm.MethodName)) ∈ vGW := vGW_at 725 (by decide +kernel) (by decide +kernel)
theorem vw_726 : (Jvm.Cond.selects "HashTreeSigner" ({ cls := "HashTreeSigner", name := "alter", desc := "(III)I" } : Jvm.MethodName) ({ cls := "HashTreeSigner", name := "alter", desc := "(III)I" } : Jvm.MethodName)) ∈ vGW := vGW_at 726 (by decide +kernel) (by decide +kernel)
set_option maxRecDepth 100000 in
theorem vw_727 : (Jvm.Cond.code ({ cls := "HashTreeSigner", name := "alter", desc := "(III)I" } : Jvm.MethodName) prog_1_method_6_code (4 : Nat) (Option.some Jvm.ClassFile.FieldType.int)) ∈ vGW := vGW_at 727 rfl rfl
theorem mL_27 : vLV RL 27 yX11_alter cX11_alter 4 (some .int) 3 8 := ⟨⟨_, rfl, rfl⟩, Or.inl vw_724, vw_725, vw_726, vw_1, vw_727, ⟨by decide +kernel, by decide +kernel⟩, by decide +kernel⟩
theorem vw_737 : (Jvm.Cond.methodLink "HashTreeSignerLaw" (31 : Nat) ({ cls := "HashTreeSigner", name := "length", desc := "(I)I" } : Jvm.MethodName)) ∈ vGW := vGW_at 737 (by decide +kernel) (by decide +kernel)
theorem vw_738 : (Jvm.Cond.instanceMethod ({ cls := "HashTreeSigner", name := "length", desc := "(I)I" } : Jvm.MethodName)) ∈ vGW := vGW_at 738 (by decide +kernel) (by decide +kernel)
theorem vw_739 : (Jvm.Cond.selects "HashTreeSigner" ({ cls := "HashTreeSigner", name := "length", desc := "(I)I" } : Jvm.MethodName) ({ cls := "HashTreeSigner", name := "length", desc := "(I)I" } : Jvm.MethodName)) ∈ vGW := vGW_at 739 (by decide +kernel) (by decide +kernel)
set_option maxRecDepth 100000 in
theorem vw_740 : (Jvm.Cond.code ({ cls := "HashTreeSigner", name := "length", desc := "(I)I" } : Jvm.MethodName) prog_1_method_7_code (2 : Nat) (Option.some Jvm.ClassFile.FieldType.int)) ∈ vGW := vGW_at 740 rfl rfl
theorem mL_31 : vLV RL 31 yX11_length cX11_length 2 (some .int) 1 8 := ⟨⟨_, rfl, rfl⟩, Or.inl vw_737, vw_738, vw_739, vw_1, vw_740, ⟨by decide +kernel, by decide +kernel⟩, by decide +kernel⟩
theorem vw_744 : (Jvm.Cond.methodLink "HashTreeSignerLaw" (35 : Nat) ({ cls := "HashTreeSigner", name := "word", desc := "(II)J" } : Jvm.MethodName)) ∈ vGW := vGW_at 744 (by decide +kernel) (by decide +kernel)
theorem vw_745 : (Jvm.Cond.instanceMethod ({ cls := "HashTreeSigner", name := "word", desc := "(II)J" } : Jvm.MethodName)) ∈ vGW := vGW_at 745 (by decide +kernel) (by decide +kernel)
theorem vw_746 : (Jvm.Cond.selects "HashTreeSigner" ({ cls := "HashTreeSigner", name := "word", desc := "(II)J" } : Jvm.MethodName) ({ cls := "HashTreeSigner", name := "word", desc := "(II)J" } : Jvm.MethodName)) ∈ vGW := vGW_at 746 (by decide +kernel) (by decide +kernel)
set_option maxRecDepth 100000 in
theorem vw_747 : (Jvm.Cond.code ({ cls := "HashTreeSigner", name := "word", desc := "(II)J" } : Jvm.MethodName) prog_1_method_8_code (6 : Nat) (Option.some Jvm.ClassFile.FieldType.long)) ∈ vGW := vGW_at 747 rfl rfl
theorem mL_35 : vLV RL 35 yX11_word cX11_word 6 (some .long) 2 8 := ⟨⟨_, rfl, rfl⟩, Or.inl vw_744, vw_745, vw_746, vw_1, vw_747, ⟨by decide +kernel, by decide +kernel⟩, by decide +kernel⟩
theorem vw_751 : (Jvm.Cond.methodLink "HashTreeSignerLaw" (39 : Nat) ({ cls := "HashTreeSigner", name := "same", desc := "(II)Z" } : Jvm.MethodName)) ∈ vGW := vGW_at 751 (by decide +kernel) (by decide +kernel)
theorem vw_752 : (Jvm.Cond.instanceMethod ({ cls := "HashTreeSigner", name := "same", desc := "(II)Z" } : Jvm.MethodName)) ∈ vGW := vGW_at 752 (by decide +kernel) (by decide +kernel)
theorem vw_753 : (Jvm.Cond.selects "HashTreeSigner" ({ cls := "HashTreeSigner", name := "same", desc := "(II)Z" } : Jvm.MethodName) ({ cls := "HashTreeSigner", name := "same", desc := "(II)Z" } : Jvm.MethodName)) ∈ vGW := vGW_at 753 (by decide +kernel) (by decide +kernel)
set_option maxRecDepth 100000 in
theorem vw_754 : (Jvm.Cond.code ({ cls := "HashTreeSigner", name := "same", desc := "(II)Z" } : Jvm.MethodName) prog_1_method_9_code (3 : Nat) (Option.some Jvm.ClassFile.FieldType.boolean)) ∈ vGW := vGW_at 754 rfl rfl
theorem mL_39 : vLV RL 39 yX11_same cX11_same 3 (some .boolean) 2 8 := ⟨⟨_, rfl, rfl⟩, Or.inl vw_751, vw_752, vw_753, vw_1, vw_754, ⟨by decide +kernel, by decide +kernel⟩, by decide +kernel⟩
theorem vw_762 : (Jvm.Cond.methodLink "HashTreeSignerLaw" (43 : Nat) ({ cls := "HashTreeSigner", name := "slhKeys", desc := "(I)I" } : Jvm.MethodName)) ∈ vGW := vGW_at 762 (by decide +kernel) (by decide +kernel)
theorem vw_763 : (Jvm.Cond.instanceMethod ({ cls := "HashTreeSigner", name := "slhKeys", desc := "(I)I" } : Jvm.MethodName)) ∈ vGW := vGW_at 763 (by decide +kernel) (by decide +kernel)
theorem vw_764 : (Jvm.Cond.selects "HashTreeSigner" ({ cls := "HashTreeSigner", name := "slhKeys", desc := "(I)I" } : Jvm.MethodName) ({ cls := "HashTreeSigner", name := "slhKeys", desc := "(I)I" } : Jvm.MethodName)) ∈ vGW := vGW_at 764 (by decide +kernel) (by decide +kernel)
set_option maxRecDepth 100000 in
theorem vw_765 : (Jvm.Cond.code ({ cls := "HashTreeSigner", name := "slhKeys", desc := "(I)I" } : Jvm.MethodName) prog_1_method_10_code (5 : Nat) (Option.some Jvm.ClassFile.FieldType.int)) ∈ vGW := vGW_at 765 rfl rfl
theorem mL_43 : vLV RL 43 yX11_slhKeys cX11_slhKeys 5 (some .int) 1 8 := ⟨⟨_, rfl, rfl⟩, Or.inl vw_762, vw_763, vw_764, vw_1, vw_765, ⟨by decide +kernel, by decide +kernel⟩, by decide +kernel⟩
theorem vw_960 : (Jvm.Cond.methodLink "HashTreeSignerLaw" (48 : Nat) ({ cls := "HashTreeSigner", name := "slhSign", desc := "(II)I" } : Jvm.MethodName)) ∈ vGW := vGW_at 960 (by decide +kernel) (by decide +kernel)
theorem vw_961 : (Jvm.Cond.instanceMethod ({ cls := "HashTreeSigner", name := "slhSign", desc := "(II)I" } : Jvm.MethodName)) ∈ vGW := vGW_at 961 (by decide +kernel) (by decide +kernel)
theorem vw_962 : (Jvm.Cond.selects "HashTreeSigner" ({ cls := "HashTreeSigner", name := "slhSign", desc := "(II)I" } : Jvm.MethodName) ({ cls := "HashTreeSigner", name := "slhSign", desc := "(II)I" } : Jvm.MethodName)) ∈ vGW := vGW_at 962 (by decide +kernel) (by decide +kernel)
set_option maxRecDepth 100000 in
theorem vw_963 : (Jvm.Cond.code ({ cls := "HashTreeSigner", name := "slhSign", desc := "(II)I" } : Jvm.MethodName) prog_1_method_11_code (8 : Nat) (Option.some Jvm.ClassFile.FieldType.int)) ∈ vGW := vGW_at 963 rfl rfl
theorem mL_48 : vLV RL 48 yX11_slhSign cX11_slhSign 8 (some .int) 2 8 := ⟨⟨_, rfl, rfl⟩, Or.inl vw_960, vw_961, vw_962, vw_1, vw_963, ⟨by decide +kernel, by decide +kernel⟩, by decide +kernel⟩
theorem vw_1075 : (Jvm.Cond.methodLink "HashTreeSignerLaw" (53 : Nat) ({ cls := "HashTreeSigner", name := "slhVerify", desc := "(II)Z" } : Jvm.MethodName)) ∈ vGW := vGW_at 1075 (by decide +kernel) (by decide +kernel)
theorem vw_1076 : (Jvm.Cond.instanceMethod ({ cls := "HashTreeSigner", name := "slhVerify", desc := "(II)Z" } : Jvm.MethodName)) ∈ vGW := vGW_at 1076 (by decide +kernel) (by decide +kernel)
theorem vw_1077 : (Jvm.Cond.selects "HashTreeSigner" ({ cls := "HashTreeSigner", name := "slhVerify", desc := "(II)Z" } : Jvm.MethodName) ({ cls := "HashTreeSigner", name := "slhVerify", desc := "(II)Z" } : Jvm.MethodName)) ∈ vGW := vGW_at 1077 (by decide +kernel) (by decide +kernel)
set_option maxRecDepth 100000 in
theorem vw_1078 : (Jvm.Cond.code ({ cls := "HashTreeSigner", name := "slhVerify", desc := "(II)Z" } : Jvm.MethodName) prog_1_method_12_code (9 : Nat) (Option.some Jvm.ClassFile.FieldType.boolean)) ∈ vGW := vGW_at 1078 rfl rfl
theorem mL_53 : vLV RL 53 yX11_slhVerify cX11_slhVerify 9 (some .boolean) 2 8 := ⟨⟨_, rfl, rfl⟩, Or.inl vw_1075, vw_1076, vw_1077, vw_1, vw_1078, ⟨by decide +kernel, by decide +kernel⟩, by decide +kernel⟩
theorem vw_1085 : (Jvm.Cond.methodLink "HashTreeSignerLaw" (56 : Nat) ({ cls := "HashTreeSigner", name := "slhNode", desc := "(IIIII)I" } : Jvm.MethodName)) ∈ vGW := vGW_at 1085 (by decide +kernel) (by decide +kernel)
theorem vw_1086 : (Jvm.Cond.instanceMethod ({ cls := "HashTreeSigner", name := "slhNode", desc := "(IIIII)I" } : Jvm.MethodName)) ∈ vGW := vGW_at 1086 (by decide +kernel) (by decide +kernel)
theorem vw_1087 : (Jvm.Cond.selects "HashTreeSigner" ({ cls := "HashTreeSigner", name := "slhNode", desc := "(IIIII)I" } : Jvm.MethodName) ({ cls := "HashTreeSigner", name := "slhNode", desc := "(IIIII)I" } : Jvm.MethodName)) ∈ vGW := vGW_at 1087 (by decide +kernel) (by decide +kernel)
set_option maxRecDepth 100000 in
theorem vw_1088 : (Jvm.Cond.code ({ cls := "HashTreeSigner", name := "slhNode", desc := "(IIIII)I" } : Jvm.MethodName) prog_1_method_13_code (8 : Nat) (Option.some Jvm.ClassFile.FieldType.int)) ∈ vGW := vGW_at 1088 rfl rfl
theorem mL_56 : vLV RL 56 yX11_slhNode cX11_slhNode 8 (some .int) 5 8 := ⟨⟨_, rfl, rfl⟩, Or.inl vw_1085, vw_1086, vw_1087, vw_1, vw_1088, ⟨by decide +kernel, by decide +kernel⟩, by decide +kernel⟩
theorem vw_37 : (Jvm.Cond.methodLink "HashTreeSignerLaw" (59 : Nat) ({ cls := "HashTreeSigner", name := "<init>", desc := "()V" } : Jvm.MethodName)) ∈ vGW := vGW_at 37 (by decide +kernel) (by decide +kernel)
theorem vw_38 : (Jvm.Cond.instanceMethod ({ cls := "HashTreeSigner", name := "<init>", desc := "()V" } : Jvm.MethodName)) ∈ vGW := vGW_at 38 (by decide +kernel) (by decide +kernel)
set_option maxRecDepth 100000 in
theorem vw_39 : (Jvm.Cond.code ({ cls := "HashTreeSigner", name := "<init>", desc := "()V" } : Jvm.MethodName) prog_1_method_1_code (1 : Nat) (Option.none : Option Jvm.ClassFile.FieldType)) ∈ vGW := vGW_at 39 rfl rfl
theorem mL_59 : vLI RL 59 yX11_init cX11_init 1 0 := ⟨Or.inl vw_37, vw_38, vw_1, vw_39, rfl, ⟨by decide +kernel, by decide +kernel⟩, by decide +kernel⟩
theorem vw_1093 : (Jvm.Cond.methodLink "HashTreeSignerLaw" (62 : Nat) ({ cls := "HashTreeSignerModel", name := "<init>", desc := "()V" } : Jvm.MethodName)) ∈ vGW := vGW_at 1093 (by decide +kernel) (by decide +kernel)
theorem vw_1094 : (Jvm.Cond.instanceMethod ({ cls := "HashTreeSignerModel", name := "<init>", desc := "()V" } : Jvm.MethodName)) ∈ vGW := vGW_at 1094 (by decide +kernel) (by decide +kernel)
theorem vw_15 : (Jvm.Cond.initialized "HashTreeSignerModel") ∈ vGW := vGW_at 15 (by decide +kernel) (by decide +kernel)
set_option maxRecDepth 100000 in
theorem vw_1095 : (Jvm.Cond.code ({ cls := "HashTreeSignerModel", name := "<init>", desc := "()V" } : Jvm.MethodName) prog_14_method_1_code (1 : Nat) (Option.none : Option Jvm.ClassFile.FieldType)) ∈ vGW := vGW_at 1095 rfl rfl
theorem mL_62 : vLI RL 62 yX12_init cX12_init 1 0 := ⟨Or.inl vw_1093, vw_1094, vw_15, vw_1095, rfl, ⟨by decide +kernel, by decide +kernel⟩, by decide +kernel⟩
theorem vw_1326 : (Jvm.Cond.methodLink "HashTreeSignerLaw" (68 : Nat) ({ cls := "HashTreeSignerModel", name := "feed", desc := "(IIIII)I" } : Jvm.MethodName)) ∈ vGW := vGW_at 1326 (by decide +kernel) (by decide +kernel)
theorem vw_1327 : (Jvm.Cond.instanceMethod ({ cls := "HashTreeSignerModel", name := "feed", desc := "(IIIII)I" } : Jvm.MethodName)) ∈ vGW := vGW_at 1327 (by decide +kernel) (by decide +kernel)
theorem vw_1328 : (Jvm.Cond.selects "HashTreeSignerModel" ({ cls := "HashTreeSignerModel", name := "feed", desc := "(IIIII)I" } : Jvm.MethodName) ({ cls := "HashTreeSignerModel", name := "feed", desc := "(IIIII)I" } : Jvm.MethodName)) ∈ vGW := vGW_at 1328 (by decide +kernel) (by decide +kernel)
set_option maxRecDepth 100000 in
theorem vw_1329 : (Jvm.Cond.code ({ cls := "HashTreeSignerModel", name := "feed", desc := "(IIIII)I" } : Jvm.MethodName) prog_14_method_5_code (6 : Nat) (Option.some Jvm.ClassFile.FieldType.int)) ∈ vGW := vGW_at 1329 rfl rfl
theorem mL_68 : vLV RL 68 yX12_feed cX12_feed 6 (some .int) 5 9 := ⟨⟨_, rfl, rfl⟩, Or.inl vw_1326, vw_1327, vw_1328, vw_15, vw_1329, ⟨by decide +kernel, by decide +kernel⟩, by decide +kernel⟩
theorem vw_1338 : (Jvm.Cond.methodLink "HashTreeSignerLaw" (72 : Nat) ({ cls := "HashTreeSignerModel", name := "end", desc := "(II)I" } : Jvm.MethodName)) ∈ vGW := vGW_at 1338 (by decide +kernel) (by decide +kernel)
theorem vw_1339 : (Jvm.Cond.instanceMethod ({ cls := "HashTreeSignerModel", name := "end", desc := "(II)I" } : Jvm.MethodName)) ∈ vGW := vGW_at 1339 (by decide +kernel) (by decide +kernel)
theorem vw_1340 : (Jvm.Cond.selects "HashTreeSignerModel" ({ cls := "HashTreeSignerModel", name := "end", desc := "(II)I" } : Jvm.MethodName) ({ cls := "HashTreeSignerModel", name := "end", desc := "(II)I" } : Jvm.MethodName)) ∈ vGW := vGW_at 1340 (by decide +kernel) (by decide +kernel)
set_option maxRecDepth 100000 in
theorem vw_1341 : (Jvm.Cond.code ({ cls := "HashTreeSignerModel", name := "end", desc := "(II)I" } : Jvm.MethodName) prog_14_method_7_code (4 : Nat) (Option.some Jvm.ClassFile.FieldType.int)) ∈ vGW := vGW_at 1341 rfl rfl
theorem mL_72 : vLV RL 72 yX12_end cX12_end 4 (some .int) 2 9 := ⟨⟨_, rfl, rfl⟩, Or.inl vw_1338, vw_1339, vw_1340, vw_15, vw_1341, ⟨by decide +kernel, by decide +kernel⟩, by decide +kernel⟩
theorem vw_1345 : (Jvm.Cond.methodLink "HashTreeSignerLaw" (75 : Nat) ({ cls := "HashTreeSignerModel", name := "copy", desc := "(II)I" } : Jvm.MethodName)) ∈ vGW := vGW_at 1345 (by decide +kernel) (by decide +kernel)
theorem vw_1346 : (Jvm.Cond.instanceMethod ({ cls := "HashTreeSignerModel", name := "copy", desc := "(II)I" } : Jvm.MethodName)) ∈ vGW := vGW_at 1346 (by decide +kernel) (by decide +kernel)
theorem vw_1347 : (Jvm.Cond.selects "HashTreeSignerModel" ({ cls := "HashTreeSignerModel", name := "copy", desc := "(II)I" } : Jvm.MethodName) ({ cls := "HashTreeSignerModel", name := "copy", desc := "(II)I" } : Jvm.MethodName)) ∈ vGW := vGW_at 1347 (by decide +kernel) (by decide +kernel)
set_option maxRecDepth 100000 in
theorem vw_1348 : (Jvm.Cond.code ({ cls := "HashTreeSignerModel", name := "copy", desc := "(II)I" } : Jvm.MethodName) prog_14_method_8_code (4 : Nat) (Option.some Jvm.ClassFile.FieldType.int)) ∈ vGW := vGW_at 1348 rfl rfl
theorem mL_75 : vLV RL 75 yX12_copy cX12_copy 4 (some .int) 2 9 := ⟨⟨_, rfl, rfl⟩, Or.inl vw_1345, vw_1346, vw_1347, vw_15, vw_1348, ⟨by decide +kernel, by decide +kernel⟩, by decide +kernel⟩
theorem vw_1322 : (Jvm.Cond.methodLink "HashTreeSignerLaw" (76 : Nat) ({ cls := "HashTreeSignerModel", name := "thrown", desc := "()I" } : Jvm.MethodName)) ∈ vGW := vGW_at 1322 (by decide +kernel) (by decide +kernel)
theorem vw_1323 : (Jvm.Cond.instanceMethod ({ cls := "HashTreeSignerModel", name := "thrown", desc := "()I" } : Jvm.MethodName)) ∈ vGW := vGW_at 1323 (by decide +kernel) (by decide +kernel)
theorem vw_1324 : (Jvm.Cond.selects "HashTreeSignerModel" ({ cls := "HashTreeSignerModel", name := "thrown", desc := "()I" } : Jvm.MethodName) ({ cls := "HashTreeSignerModel", name := "thrown", desc := "()I" } : Jvm.MethodName)) ∈ vGW := vGW_at 1324 (by decide +kernel) (by decide +kernel)
set_option maxRecDepth 100000 in
theorem vw_1325 : (Jvm.Cond.code ({ cls := "HashTreeSignerModel", name := "thrown", desc := "()I" } : Jvm.MethodName) prog_14_method_2_code (1 : Nat) (Option.some Jvm.ClassFile.FieldType.int)) ∈ vGW := vGW_at 1325 rfl rfl
theorem mL_76 : vLV RL 76 yX12_thrown cX12_thrown 1 (some .int) 0 9 := ⟨⟨_, rfl, rfl⟩, Or.inl vw_1322, vw_1323, vw_1324, vw_15, vw_1325, ⟨by decide +kernel, by decide +kernel⟩, by decide +kernel⟩
theorem vw_1349 : (Jvm.Cond.methodLink "HashTreeSignerLaw" (82 : Nat) ({ cls := "HashTreeSignerModel", name := "resize", desc := "(II)I" } : Jvm.MethodName)) ∈ vGW := vGW_at 1349 (by decide +kernel) (by decide +kernel)
theorem vw_1350 : (Jvm.Cond.instanceMethod ({ cls := "HashTreeSignerModel", name := "resize", desc := "(II)I" } : Jvm.MethodName)) ∈ vGW := vGW_at 1350 (by decide +kernel) (by decide +kernel)
theorem vw_1351 : (Jvm.Cond.selects "HashTreeSignerModel" ({ cls := "HashTreeSignerModel", name := "resize", desc := "(II)I" } : Jvm.MethodName) ({ cls := "HashTreeSignerModel", name := "resize", desc := "(II)I" } : Jvm.MethodName)) ∈ vGW := vGW_at 1351 (by decide +kernel) (by decide +kernel)
set_option maxRecDepth 100000 in
theorem vw_1352 : (Jvm.Cond.code ({ cls := "HashTreeSignerModel", name := "resize", desc := "(II)I" } : Jvm.MethodName) prog_14_method_9_code (5 : Nat) (Option.some Jvm.ClassFile.FieldType.int)) ∈ vGW := vGW_at 1352 rfl rfl
theorem mL_82 : vLV RL 82 yX12_resize cX12_resize 5 (some .int) 2 9 := ⟨⟨_, rfl, rfl⟩, Or.inl vw_1349, vw_1350, vw_1351, vw_15, vw_1352, ⟨by decide +kernel, by decide +kernel⟩, by decide +kernel⟩
theorem vw_1353 : (Jvm.Cond.methodLink "HashTreeSignerLaw" (86 : Nat) ({ cls := "HashTreeSignerModel", name := "alter", desc := "(III)I" } : Jvm.MethodName)) ∈ vGW := vGW_at 1353 (by decide +kernel) (by decide +kernel)
theorem vw_1354 : (Jvm.Cond.instanceMethod ({ cls := "HashTreeSignerModel", name := "alter", desc := "(III)I" } : Jvm.MethodName)) ∈ vGW := vGW_at 1354 (by decide +kernel) (by decide +kernel)
theorem vw_1355 : (Jvm.Cond.selects "HashTreeSignerModel" ({ cls := "HashTreeSignerModel", name := "alter", desc := "(III)I" } : Jvm.MethodName) ({ cls := "HashTreeSignerModel", name := "alter", desc := "(III)I" } : Jvm.MethodName)) ∈ vGW := vGW_at 1355 (by decide +kernel) (by decide +kernel)
set_option maxRecDepth 100000 in
theorem vw_1356 : (Jvm.Cond.code ({ cls := "HashTreeSignerModel", name := "alter", desc := "(III)I" } : Jvm.MethodName) prog_14_method_10_code (4 : Nat) (Option.some Jvm.ClassFile.FieldType.int)) ∈ vGW := vGW_at 1356 rfl rfl
theorem mL_86 : vLV RL 86 yX12_alter cX12_alter 4 (some .int) 3 9 := ⟨⟨_, rfl, rfl⟩, Or.inl vw_1353, vw_1354, vw_1355, vw_15, vw_1356, ⟨by decide +kernel, by decide +kernel⟩, by decide +kernel⟩
theorem vw_1357 : (Jvm.Cond.methodLink "HashTreeSignerLaw" (90 : Nat) ({ cls := "HashTreeSignerModel", name := "length", desc := "(I)I" } : Jvm.MethodName)) ∈ vGW := vGW_at 1357 (by decide +kernel) (by decide +kernel)
theorem vw_1358 : (Jvm.Cond.instanceMethod ({ cls := "HashTreeSignerModel", name := "length", desc := "(I)I" } : Jvm.MethodName)) ∈ vGW := vGW_at 1358 (by decide +kernel) (by decide +kernel)
theorem vw_1359 : (Jvm.Cond.selects "HashTreeSignerModel" ({ cls := "HashTreeSignerModel", name := "length", desc := "(I)I" } : Jvm.MethodName) ({ cls := "HashTreeSignerModel", name := "length", desc := "(I)I" } : Jvm.MethodName)) ∈ vGW := vGW_at 1359 (by decide +kernel) (by decide +kernel)
set_option maxRecDepth 100000 in
theorem vw_1360 : (Jvm.Cond.code ({ cls := "HashTreeSignerModel", name := "length", desc := "(I)I" } : Jvm.MethodName) prog_14_method_11_code (2 : Nat) (Option.some Jvm.ClassFile.FieldType.int)) ∈ vGW := vGW_at 1360 rfl rfl
theorem mL_90 : vLV RL 90 yX12_length cX12_length 2 (some .int) 1 9 := ⟨⟨_, rfl, rfl⟩, Or.inl vw_1357, vw_1358, vw_1359, vw_15, vw_1360, ⟨by decide +kernel, by decide +kernel⟩, by decide +kernel⟩
theorem vw_1361 : (Jvm.Cond.methodLink "HashTreeSignerLaw" (93 : Nat) ({ cls := "HashTreeSignerModel", name := "word", desc := "(II)J" } : Jvm.MethodName)) ∈ vGW := vGW_at 1361 (by decide +kernel) (by decide +kernel)
theorem vw_1362 : (Jvm.Cond.instanceMethod ({ cls := "HashTreeSignerModel", name := "word", desc := "(II)J" } : Jvm.MethodName)) ∈ vGW := vGW_at 1362 (by decide +kernel) (by decide +kernel)
theorem vw_1363 : (Jvm.Cond.selects "HashTreeSignerModel" ({ cls := "HashTreeSignerModel", name := "word", desc := "(II)J" } : Jvm.MethodName) ({ cls := "HashTreeSignerModel", name := "word", desc := "(II)J" } : Jvm.MethodName)) ∈ vGW := vGW_at 1363 (by decide +kernel) (by decide +kernel)
set_option maxRecDepth 100000 in
theorem vw_1364 : (Jvm.Cond.code ({ cls := "HashTreeSignerModel", name := "word", desc := "(II)J" } : Jvm.MethodName) prog_14_method_12_code (6 : Nat) (Option.some Jvm.ClassFile.FieldType.long)) ∈ vGW := vGW_at 1364 rfl rfl
theorem mL_93 : vLV RL 93 yX12_word_ cX12_word_ 6 (some .long) 2 9 := ⟨⟨_, rfl, rfl⟩, Or.inl vw_1361, vw_1362, vw_1363, vw_15, vw_1364, ⟨by decide +kernel, by decide +kernel⟩, by decide +kernel⟩
theorem vw_1365 : (Jvm.Cond.methodLink "HashTreeSignerLaw" (96 : Nat) ({ cls := "HashTreeSignerModel", name := "same", desc := "(II)Z" } : Jvm.MethodName)) ∈ vGW := vGW_at 1365 (by decide +kernel) (by decide +kernel)
theorem vw_1366 : (Jvm.Cond.instanceMethod ({ cls := "HashTreeSignerModel", name := "same", desc := "(II)Z" } : Jvm.MethodName)) ∈ vGW := vGW_at 1366 (by decide +kernel) (by decide +kernel)
theorem vw_1367 : (Jvm.Cond.selects "HashTreeSignerModel" ({ cls := "HashTreeSignerModel", name := "same", desc := "(II)Z" } : Jvm.MethodName) ({ cls := "HashTreeSignerModel", name := "same", desc := "(II)Z" } : Jvm.MethodName)) ∈ vGW := vGW_at 1367 (by decide +kernel) (by decide +kernel)
set_option maxRecDepth 100000 in
theorem vw_1368 : (Jvm.Cond.code ({ cls := "HashTreeSignerModel", name := "same", desc := "(II)Z" } : Jvm.MethodName) prog_14_method_13_code (5 : Nat) (Option.some Jvm.ClassFile.FieldType.boolean)) ∈ vGW := vGW_at 1368 rfl rfl
theorem mL_96 : vLV RL 96 yX12_same cX12_same 5 (some .boolean) 2 9 := ⟨⟨_, rfl, rfl⟩, Or.inl vw_1365, vw_1366, vw_1367, vw_15, vw_1368, ⟨by decide +kernel, by decide +kernel⟩, by decide +kernel⟩
theorem vw_1369 : (Jvm.Cond.methodLink "HashTreeSignerLaw" (99 : Nat) ({ cls := "HashTreeSignerModel", name := "slhKeys", desc := "(I)I" } : Jvm.MethodName)) ∈ vGW := vGW_at 1369 (by decide +kernel) (by decide +kernel)
theorem vw_1370 : (Jvm.Cond.instanceMethod ({ cls := "HashTreeSignerModel", name := "slhKeys", desc := "(I)I" } : Jvm.MethodName)) ∈ vGW := vGW_at 1370 (by decide +kernel) (by decide +kernel)
theorem vw_1371 : (Jvm.Cond.selects "HashTreeSignerModel" ({ cls := "HashTreeSignerModel", name := "slhKeys", desc := "(I)I" } : Jvm.MethodName) ({ cls := "HashTreeSignerModel", name := "slhKeys", desc := "(I)I" } : Jvm.MethodName)) ∈ vGW := vGW_at 1371 (by decide +kernel) (by decide +kernel)
set_option maxRecDepth 100000 in
theorem vw_1372 : (Jvm.Cond.code ({ cls := "HashTreeSignerModel", name := "slhKeys", desc := "(I)I" } : Jvm.MethodName) prog_14_method_64_code (2 : Nat) (Option.some Jvm.ClassFile.FieldType.int)) ∈ vGW := vGW_at 1372 rfl rfl
theorem mL_99 : vLV RL 99 yX12_slhKeys cX12_slhKeys 2 (some .int) 1 9 := ⟨⟨_, rfl, rfl⟩, Or.inl vw_1369, vw_1370, vw_1371, vw_15, vw_1372, ⟨by decide +kernel, by decide +kernel⟩, by decide +kernel⟩
theorem vw_1420 : (Jvm.Cond.methodLink "HashTreeSignerLaw" (102 : Nat) ({ cls := "HashTreeSignerModel", name := "slhSign", desc := "(II)I" } : Jvm.MethodName)) ∈ vGW := vGW_at 1420 (by decide +kernel) (by decide +kernel)
theorem vw_1421 : (Jvm.Cond.instanceMethod ({ cls := "HashTreeSignerModel", name := "slhSign", desc := "(II)I" } : Jvm.MethodName)) ∈ vGW := vGW_at 1421 (by decide +kernel) (by decide +kernel)
theorem vw_1422 : (Jvm.Cond.selects "HashTreeSignerModel" ({ cls := "HashTreeSignerModel", name := "slhSign", desc := "(II)I" } : Jvm.MethodName) ({ cls := "HashTreeSignerModel", name := "slhSign", desc := "(II)I" } : Jvm.MethodName)) ∈ vGW := vGW_at 1422 (by decide +kernel) (by decide +kernel)
set_option maxRecDepth 100000 in
theorem vw_1423 : (Jvm.Cond.code ({ cls := "HashTreeSignerModel", name := "slhSign", desc := "(II)I" } : Jvm.MethodName) prog_14_method_65_code (8 : Nat) (Option.some Jvm.ClassFile.FieldType.int)) ∈ vGW := vGW_at 1423 rfl rfl
theorem mL_102 : vLV RL 102 yX12_slhSign cX12_slhSign 8 (some .int) 2 9 := ⟨⟨_, rfl, rfl⟩, Or.inl vw_1420, vw_1421, vw_1422, vw_15, vw_1423, ⟨by decide +kernel, by decide +kernel⟩, by decide +kernel⟩
theorem vw_1496 : (Jvm.Cond.methodLink "HashTreeSignerLaw" (105 : Nat) ({ cls := "HashTreeSignerModel", name := "slhVerify", desc := "(II)Z" } : Jvm.MethodName)) ∈ vGW := vGW_at 1496 (by decide +kernel) (by decide +kernel)
theorem vw_1497 : (Jvm.Cond.instanceMethod ({ cls := "HashTreeSignerModel", name := "slhVerify", desc := "(II)Z" } : Jvm.MethodName)) ∈ vGW := vGW_at 1497 (by decide +kernel) (by decide +kernel)
theorem vw_1498 : (Jvm.Cond.selects "HashTreeSignerModel" ({ cls := "HashTreeSignerModel", name := "slhVerify", desc := "(II)Z" } : Jvm.MethodName) ({ cls := "HashTreeSignerModel", name := "slhVerify", desc := "(II)Z" } : Jvm.MethodName)) ∈ vGW := vGW_at 1498 (by decide +kernel) (by decide +kernel)
set_option maxRecDepth 100000 in
theorem vw_1499 : (Jvm.Cond.code ({ cls := "HashTreeSignerModel", name := "slhVerify", desc := "(II)Z" } : Jvm.MethodName) prog_14_method_66_code (8 : Nat) (Option.some Jvm.ClassFile.FieldType.boolean)) ∈ vGW := vGW_at 1499 rfl rfl
theorem mL_105 : vLV RL 105 yX12_slhVerify cX12_slhVerify 8 (some .boolean) 2 9 := ⟨⟨_, rfl, rfl⟩, Or.inl vw_1496, vw_1497, vw_1498, vw_15, vw_1499, ⟨by decide +kernel, by decide +kernel⟩, by decide +kernel⟩
theorem vw_1503 : (Jvm.Cond.methodLink "HashTreeSignerLaw" (108 : Nat) ({ cls := "HashTreeSignerModel", name := "slhNode", desc := "(IIIII)I" } : Jvm.MethodName)) ∈ vGW := vGW_at 1503 (by decide +kernel) (by decide +kernel)
theorem vw_1504 : (Jvm.Cond.instanceMethod ({ cls := "HashTreeSignerModel", name := "slhNode", desc := "(IIIII)I" } : Jvm.MethodName)) ∈ vGW := vGW_at 1504 (by decide +kernel) (by decide +kernel)
theorem vw_1505 : (Jvm.Cond.selects "HashTreeSignerModel" ({ cls := "HashTreeSignerModel", name := "slhNode", desc := "(IIIII)I" } : Jvm.MethodName) ({ cls := "HashTreeSignerModel", name := "slhNode", desc := "(IIIII)I" } : Jvm.MethodName)) ∈ vGW := vGW_at 1505 (by decide +kernel) (by decide +kernel)
set_option maxRecDepth 100000 in
theorem vw_1506 : (Jvm.Cond.code ({ cls := "HashTreeSignerModel", name := "slhNode", desc := "(IIIII)I" } : Jvm.MethodName) prog_14_method_67_code (6 : Nat) (Option.some Jvm.ClassFile.FieldType.int)) ∈ vGW := vGW_at 1506 rfl rfl
theorem mL_108 : vLV RL 108 yX12_slhNode cX12_slhNode 6 (some .int) 5 9 := ⟨⟨_, rfl, rfl⟩, Or.inl vw_1503, vw_1504, vw_1505, vw_15, vw_1506, ⟨by decide +kernel, by decide +kernel⟩, by decide +kernel⟩
theorem vw_1099 : (Jvm.Cond.methodLink "HashTreeSignerModel" (120 : Nat) ({ cls := "HashTreeSignerModel", name := "constants", desc := "()V" } : Jvm.MethodName)) ∈ vGW := vGW_at 1099 (by decide +kernel) (by decide +kernel)
theorem vw_1101 : (Jvm.Cond.instanceMethod ({ cls := "HashTreeSignerModel", name := "constants", desc := "()V" } : Jvm.MethodName)) ∈ vGW := vGW_at 1101 (by decide +kernel) (by decide +kernel)
theorem vs_17 : (Jvm.Cond.selects "HashTreeSignerModel" ({ cls := "HashTreeSignerModel", name := "constants", desc := "()V" } : Jvm.MethodName) ({ cls := "HashTreeSignerModel", name := "constants", desc := "()V" } : Jvm.MethodName)) ∈ vGW := vGW_sel 17 (by decide +kernel) (by decide +kernel)
set_option maxRecDepth 100000 in
theorem vw_1102 : (Jvm.Cond.code ({ cls := "HashTreeSignerModel", name := "constants", desc := "()V" } : Jvm.MethodName) prog_14_method_19_code (6 : Nat) (Option.none : Option Jvm.ClassFile.FieldType)) ∈ vGW := vGW_at 1102 rfl rfl
theorem mX12_120 : vLV RX12 120 yX12_constants cX12_constants 6 none 0 9 := ⟨⟨_, rfl, rfl⟩, Or.inl vw_1099, vw_1101, vs_17, vw_15, vw_1102, ⟨by decide +kernel, by decide +kernel⟩, by decide +kernel⟩
theorem vw_1330 : (Jvm.Cond.methodLink "HashTreeSignerModel" (130 : Nat) ({ cls := "HashTreeSignerModel", name := "good", desc := "(ZI)Z" } : Jvm.MethodName)) ∈ vGW := vGW_at 1330 (by decide +kernel) (by decide +kernel)
theorem vw_1332 : (Jvm.Cond.instanceMethod ({ cls := "HashTreeSignerModel", name := "good", desc := "(ZI)Z" } : Jvm.MethodName)) ∈ vGW := vGW_at 1332 (by decide +kernel) (by decide +kernel)
theorem vs_29 : (Jvm.Cond.selects "HashTreeSignerModel" ({ cls := "HashTreeSignerModel", name := "good", desc := "(ZI)Z" } : Jvm.MethodName) ({ cls := "HashTreeSignerModel", name := "good", desc := "(ZI)Z" } : Jvm.MethodName)) ∈ vGW := vGW_sel 29 (by decide +kernel) (by decide +kernel)
set_option maxRecDepth 100000 in
theorem vw_1333 : (Jvm.Cond.code ({ cls := "HashTreeSignerModel", name := "good", desc := "(ZI)Z" } : Jvm.MethodName) prog_14_method_4_code (3 : Nat) (Option.some Jvm.ClassFile.FieldType.boolean)) ∈ vGW := vGW_at 1333 rfl rfl
theorem mX12_130 : vLV RX12 130 yX12_good cX12_good 3 (some .boolean) 2 9 := ⟨⟨_, rfl, rfl⟩, Or.inl vw_1330, vw_1332, vs_29, vw_15, vw_1333, ⟨by decide +kernel, by decide +kernel⟩, by decide +kernel⟩
theorem vw_1334 : (Jvm.Cond.methodLink "HashTreeSignerModel" (134 : Nat) ({ cls := "HashTreeSignerModel", name := "word", desc := "(I)V" } : Jvm.MethodName)) ∈ vGW := vGW_at 1334 (by decide +kernel) (by decide +kernel)
theorem vw_1336 : (Jvm.Cond.instanceMethod ({ cls := "HashTreeSignerModel", name := "word", desc := "(I)V" } : Jvm.MethodName)) ∈ vGW := vGW_at 1336 (by decide +kernel) (by decide +kernel)
theorem vs_30 : (Jvm.Cond.selects "HashTreeSignerModel" ({ cls := "HashTreeSignerModel", name := "word", desc := "(I)V" } : Jvm.MethodName) ({ cls := "HashTreeSignerModel", name := "word", desc := "(I)V" } : Jvm.MethodName)) ∈ vGW := vGW_sel 30 (by decide +kernel) (by decide +kernel)
set_option maxRecDepth 100000 in
theorem vw_1337 : (Jvm.Cond.code ({ cls := "HashTreeSignerModel", name := "word", desc := "(I)V" } : Jvm.MethodName) prog_14_method_6_code (3 : Nat) (Option.none : Option Jvm.ClassFile.FieldType)) ∈ vGW := vGW_at 1337 rfl rfl
theorem mX12_134 : vLV RX12 134 yX12_word cX12_word 3 none 1 9 := ⟨⟨_, rfl, rfl⟩, Or.inl vw_1334, vw_1336, vs_30, vw_15, vw_1337, ⟨by decide +kernel, by decide +kernel⟩, by decide +kernel⟩
theorem vw_1342 : (Jvm.Cond.methodLink "HashTreeSignerModel" (138 : Nat) ({ cls := "HashTreeSignerModel", name := "in", desc := "(III)Z" } : Jvm.MethodName)) ∈ vGW := vGW_at 1342 (by decide +kernel) (by decide +kernel)
theorem vw_1343 : (Jvm.Cond.static ({ cls := "HashTreeSignerModel", name := "in", desc := "(III)Z" } : Jvm.MethodName)) ∈ vGW := vGW_at 1343 (by decide +kernel) (by decide +kernel)
set_option maxRecDepth 100000 in
theorem vw_1344 : (Jvm.Cond.code ({ cls := "HashTreeSignerModel", name := "in", desc := "(III)Z" } : Jvm.MethodName) prog_14_method_3_code (3 : Nat) (Option.some Jvm.ClassFile.FieldType.boolean)) ∈ vGW := vGW_at 1344 rfl rfl
theorem mX12_138 : vLS RX12 138 yX12_in cX12_in 3 (some .boolean) 3 := ⟨Or.inl vw_1342, vw_1343, vw_15, vw_1344, ⟨by decide +kernel, by decide +kernel⟩, by decide +kernel⟩
theorem vw_1110 : (Jvm.Cond.methodLink "HashTreeSignerModel" (146 : Nat) ({ cls := "HashTreeSignerModel", name := "above", desc := "(IJII)Z" } : Jvm.MethodName)) ∈ vGW := vGW_at 1110 (by decide +kernel) (by decide +kernel)
theorem vw_1112 : (Jvm.Cond.instanceMethod ({ cls := "HashTreeSignerModel", name := "above", desc := "(IJII)Z" } : Jvm.MethodName)) ∈ vGW := vGW_at 1112 (by decide +kernel) (by decide +kernel)
theorem vs_19 : (Jvm.Cond.selects "HashTreeSignerModel" ({ cls := "HashTreeSignerModel", name := "above", desc := "(IJII)Z" } : Jvm.MethodName) ({ cls := "HashTreeSignerModel", name := "above", desc := "(IJII)Z" } : Jvm.MethodName)) ∈ vGW := vGW_sel 19 (by decide +kernel) (by decide +kernel)
set_option maxRecDepth 100000 in
theorem vw_1113 : (Jvm.Cond.code ({ cls := "HashTreeSignerModel", name := "above", desc := "(IJII)Z" } : Jvm.MethodName) prog_14_method_17_code (10 : Nat) (Option.some Jvm.ClassFile.FieldType.boolean)) ∈ vGW := vGW_at 1113 rfl rfl
theorem mX12_146 : vLV RX12 146 yX12_above cX12_above 10 (some .boolean) 4 9 := ⟨⟨_, rfl, rfl⟩, Or.inl vw_1110, vw_1112, vs_19, vw_15, vw_1113, ⟨by decide +kernel, by decide +kernel⟩, by decide +kernel⟩
theorem vw_1103 : (Jvm.Cond.methodLink "HashTreeSignerModel" (150 : Nat) ({ cls := "HashTreeSignerModel", name := "prime", desc := "(I)Z" } : Jvm.MethodName)) ∈ vGW := vGW_at 1103 (by decide +kernel) (by decide +kernel)
theorem vw_1104 : (Jvm.Cond.static ({ cls := "HashTreeSignerModel", name := "prime", desc := "(I)Z" } : Jvm.MethodName)) ∈ vGW := vGW_at 1104 (by decide +kernel) (by decide +kernel)
set_option maxRecDepth 100000 in
theorem vw_1105 : (Jvm.Cond.code ({ cls := "HashTreeSignerModel", name := "prime", desc := "(I)Z" } : Jvm.MethodName) prog_14_method_16_code (2 : Nat) (Option.some Jvm.ClassFile.FieldType.boolean)) ∈ vGW := vGW_at 1105 rfl rfl
theorem mX12_150 : vLS RX12 150 yX12_prime cX12_prime 2 (some .boolean) 1 := ⟨Or.inl vw_1103, vw_1104, vw_15, vw_1105, ⟨by decide +kernel, by decide +kernel⟩, by decide +kernel⟩
theorem vw_1106 : (Jvm.Cond.methodLink "HashTreeSignerModel" (154 : Nat) ({ cls := "HashTreeSignerModel", name := "root", desc := "(II)J" } : Jvm.MethodName)) ∈ vGW := vGW_at 1106 (by decide +kernel) (by decide +kernel)
theorem vw_1108 : (Jvm.Cond.instanceMethod ({ cls := "HashTreeSignerModel", name := "root", desc := "(II)J" } : Jvm.MethodName)) ∈ vGW := vGW_at 1108 (by decide +kernel) (by decide +kernel)
theorem vs_18 : (Jvm.Cond.selects "HashTreeSignerModel" ({ cls := "HashTreeSignerModel", name := "root", desc := "(II)J" } : Jvm.MethodName) ({ cls := "HashTreeSignerModel", name := "root", desc := "(II)J" } : Jvm.MethodName)) ∈ vGW := vGW_sel 18 (by decide +kernel) (by decide +kernel)
set_option maxRecDepth 100000 in
theorem vw_1109 : (Jvm.Cond.code ({ cls := "HashTreeSignerModel", name := "root", desc := "(II)J" } : Jvm.MethodName) prog_14_method_18_code (7 : Nat) (Option.some Jvm.ClassFile.FieldType.long)) ∈ vGW := vGW_at 1109 rfl rfl
theorem mX12_154 : vLV RX12 154 yX12_root cX12_root 7 (some .long) 2 9 := ⟨⟨_, rfl, rfl⟩, Or.inl vw_1106, vw_1108, vs_18, vw_15, vw_1109, ⟨by decide +kernel, by decide +kernel⟩, by decide +kernel⟩
theorem vw_1115 : (Jvm.Cond.methodLink "HashTreeSignerModel" (158 : Nat) ({ cls := "HashTreeSignerModel", name := "bit", desc := "(I)I" } : Jvm.MethodName)) ∈ vGW := vGW_at 1115 (by decide +kernel) (by decide +kernel)
theorem vw_1116 : (Jvm.Cond.static ({ cls := "HashTreeSignerModel", name := "bit", desc := "(I)I" } : Jvm.MethodName)) ∈ vGW := vGW_at 1116 (by decide +kernel) (by decide +kernel)
set_option maxRecDepth 100000 in
theorem vw_1117 : (Jvm.Cond.code ({ cls := "HashTreeSignerModel", name := "bit", desc := "(I)I" } : Jvm.MethodName) prog_14_method_20_code (3 : Nat) (Option.some Jvm.ClassFile.FieldType.int)) ∈ vGW := vGW_at 1117 rfl rfl
theorem mX12_158 : vLS RX12 158 yX12_bit cX12_bit 3 (some .int) 1 := ⟨Or.inl vw_1115, vw_1116, vw_15, vw_1117, ⟨by decide +kernel, by decide +kernel⟩, by decide +kernel⟩
theorem vw_1118 : (Jvm.Cond.methodLink "HashTreeSignerModel" (162 : Nat) ({ cls := "HashTreeSignerModel", name := "named", desc := "([JII)V" } : Jvm.MethodName)) ∈ vGW := vGW_at 1118 (by decide +kernel) (by decide +kernel)
theorem vw_1120 : (Jvm.Cond.instanceMethod ({ cls := "HashTreeSignerModel", name := "named", desc := "([JII)V" } : Jvm.MethodName)) ∈ vGW := vGW_at 1120 (by decide +kernel) (by decide +kernel)
theorem vs_20 : (Jvm.Cond.selects "HashTreeSignerModel" ({ cls := "HashTreeSignerModel", name := "named", desc := "([JII)V" } : Jvm.MethodName) ({ cls := "HashTreeSignerModel", name := "named", desc := "([JII)V" } : Jvm.MethodName)) ∈ vGW := vGW_sel 20 (by decide +kernel) (by decide +kernel)
set_option maxRecDepth 100000 in
theorem vw_1121 : (Jvm.Cond.code ({ cls := "HashTreeSignerModel", name := "named", desc := "([JII)V" } : Jvm.MethodName) prog_14_method_21_code (5 : Nat) (Option.none : Option Jvm.ClassFile.FieldType)) ∈ vGW := vGW_at 1121 rfl rfl
theorem mX12_162 : vLV RX12 162 yX12_named cX12_named 5 none 3 9 := ⟨⟨_, rfl, rfl⟩, Or.inl vw_1118, vw_1120, vs_20, vw_15, vw_1121, ⟨by decide +kernel, by decide +kernel⟩, by decide +kernel⟩
theorem vw_1122 : (Jvm.Cond.methodLink "HashTreeSignerModel" (166 : Nat) ({ cls := "HashTreeSignerModel", name := "begin", desc := "(I)V" } : Jvm.MethodName)) ∈ vGW := vGW_at 1122 (by decide +kernel) (by decide +kernel)
theorem vw_1124 : (Jvm.Cond.instanceMethod ({ cls := "HashTreeSignerModel", name := "begin", desc := "(I)V" } : Jvm.MethodName)) ∈ vGW := vGW_at 1124 (by decide +kernel) (by decide +kernel)
theorem vs_21 : (Jvm.Cond.selects "HashTreeSignerModel" ({ cls := "HashTreeSignerModel", name := "begin", desc := "(I)V" } : Jvm.MethodName) ({ cls := "HashTreeSignerModel", name := "begin", desc := "(I)V" } : Jvm.MethodName)) ∈ vGW := vGW_sel 21 (by decide +kernel) (by decide +kernel)
set_option maxRecDepth 100000 in
theorem vw_1125 : (Jvm.Cond.code ({ cls := "HashTreeSignerModel", name := "begin", desc := "(I)V" } : Jvm.MethodName) prog_14_method_25_code (3 : Nat) (Option.none : Option Jvm.ClassFile.FieldType)) ∈ vGW := vGW_at 1125 rfl rfl
theorem mX12_166 : vLV RX12 166 yX12_begin cX12_begin 3 none 1 9 := ⟨⟨_, rfl, rfl⟩, Or.inl vw_1122, vw_1124, vs_21, vw_15, vw_1125, ⟨by decide +kernel, by decide +kernel⟩, by decide +kernel⟩
theorem vw_1134 : (Jvm.Cond.methodLink "HashTreeSignerModel" (171 : Nat) ({ cls := "HashTreeSignerModel", name := "put", desc := "(I)V" } : Jvm.MethodName)) ∈ vGW := vGW_at 1134 (by decide +kernel) (by decide +kernel)
theorem vw_1136 : (Jvm.Cond.instanceMethod ({ cls := "HashTreeSignerModel", name := "put", desc := "(I)V" } : Jvm.MethodName)) ∈ vGW := vGW_at 1136 (by decide +kernel) (by decide +kernel)
theorem vs_22 : (Jvm.Cond.selects "HashTreeSignerModel" ({ cls := "HashTreeSignerModel", name := "put", desc := "(I)V" } : Jvm.MethodName) ({ cls := "HashTreeSignerModel", name := "put", desc := "(I)V" } : Jvm.MethodName)) ∈ vGW := vGW_sel 22 (by decide +kernel) (by decide +kernel)
set_option maxRecDepth 100000 in
theorem vw_1137 : (Jvm.Cond.code ({ cls := "HashTreeSignerModel", name := "put", desc := "(I)V" } : Jvm.MethodName) prog_14_method_27_code (2 : Nat) (Option.none : Option Jvm.ClassFile.FieldType)) ∈ vGW := vGW_at 1137 rfl rfl
theorem mX12_171 : vLV RX12 171 yX12_put cX12_put 2 none 1 9 := ⟨⟨_, rfl, rfl⟩, Or.inl vw_1134, vw_1136, vs_22, vw_15, vw_1137, ⟨by decide +kernel, by decide +kernel⟩, by decide +kernel⟩
theorem vw_1169 : (Jvm.Cond.methodLink "HashTreeSignerModel" (174 : Nat) ({ cls := "HashTreeSignerModel", name := "finish", desc := "()V" } : Jvm.MethodName)) ∈ vGW := vGW_at 1169 (by decide +kernel) (by decide +kernel)
theorem vw_1171 : (Jvm.Cond.instanceMethod ({ cls := "HashTreeSignerModel", name := "finish", desc := "()V" } : Jvm.MethodName)) ∈ vGW := vGW_at 1171 (by decide +kernel) (by decide +kernel)
theorem vs_28 : (Jvm.Cond.selects "HashTreeSignerModel" ({ cls := "HashTreeSignerModel", name := "finish", desc := "()V" } : Jvm.MethodName) ({ cls := "HashTreeSignerModel", name := "finish", desc := "()V" } : Jvm.MethodName)) ∈ vGW := vGW_sel 28 (by decide +kernel) (by decide +kernel)
set_option maxRecDepth 100000 in
theorem vw_1172 : (Jvm.Cond.code ({ cls := "HashTreeSignerModel", name := "finish", desc := "()V" } : Jvm.MethodName) prog_14_method_35_code (4 : Nat) (Option.none : Option Jvm.ClassFile.FieldType)) ∈ vGW := vGW_at 1172 rfl rfl
theorem mX12_174 : vLV RX12 174 yX12_finish cX12_finish 4 none 0 9 := ⟨⟨_, rfl, rfl⟩, Or.inl vw_1169, vw_1171, vs_28, vw_15, vw_1172, ⟨by decide +kernel, by decide +kernel⟩, by decide +kernel⟩
theorem vw_1126 : (Jvm.Cond.methodLink "HashTreeSignerModel" (187 : Nat) ({ cls := "HashTreeSignerModel", name := "digestOf", desc := "(I)I" } : Jvm.MethodName)) ∈ vGW := vGW_at 1126 (by decide +kernel) (by decide +kernel)
theorem vw_1127 : (Jvm.Cond.static ({ cls := "HashTreeSignerModel", name := "digestOf", desc := "(I)I" } : Jvm.MethodName)) ∈ vGW := vGW_at 1127 (by decide +kernel) (by decide +kernel)
set_option maxRecDepth 100000 in
theorem vw_1128 : (Jvm.Cond.code ({ cls := "HashTreeSignerModel", name := "digestOf", desc := "(I)I" } : Jvm.MethodName) prog_14_method_24_code (1 : Nat) (Option.some Jvm.ClassFile.FieldType.int)) ∈ vGW := vGW_at 1128 rfl rfl
theorem mX12_187 : vLS RX12 187 yX12_digestOf cX12_digestOf 1 (some .int) 1 := ⟨Or.inl vw_1126, vw_1127, vw_15, vw_1128, ⟨by decide +kernel, by decide +kernel⟩, by decide +kernel⟩
theorem vw_1129 : (Jvm.Cond.methodLink "HashTreeSignerModel" (190 : Nat) ({ cls := "HashTreeSignerModel", name := "blockOf", desc := "(I)I" } : Jvm.MethodName)) ∈ vGW := vGW_at 1129 (by decide +kernel) (by decide +kernel)
theorem vw_1130 : (Jvm.Cond.static ({ cls := "HashTreeSignerModel", name := "blockOf", desc := "(I)I" } : Jvm.MethodName)) ∈ vGW := vGW_at 1130 (by decide +kernel) (by decide +kernel)
set_option maxRecDepth 100000 in
theorem vw_1131 : (Jvm.Cond.code ({ cls := "HashTreeSignerModel", name := "blockOf", desc := "(I)I" } : Jvm.MethodName) prog_14_method_23_code (1 : Nat) (Option.some Jvm.ClassFile.FieldType.int)) ∈ vGW := vGW_at 1131 rfl rfl
theorem mX12_190 : vLS RX12 190 yX12_blockOf cX12_blockOf 1 (some .int) 1 := ⟨Or.inl vw_1129, vw_1130, vw_15, vw_1131, ⟨by decide +kernel, by decide +kernel⟩, by decide +kernel⟩
theorem vw_1138 : (Jvm.Cond.methodLink "HashTreeSignerModel" (198 : Nat) ({ cls := "HashTreeSignerModel", name := "sponge", desc := "()Z" } : Jvm.MethodName)) ∈ vGW := vGW_at 1138 (by decide +kernel) (by decide +kernel)
theorem vw_1140 : (Jvm.Cond.instanceMethod ({ cls := "HashTreeSignerModel", name := "sponge", desc := "()Z" } : Jvm.MethodName)) ∈ vGW := vGW_at 1140 (by decide +kernel) (by decide +kernel)
theorem vs_23 : (Jvm.Cond.selects "HashTreeSignerModel" ({ cls := "HashTreeSignerModel", name := "sponge", desc := "()Z" } : Jvm.MethodName) ({ cls := "HashTreeSignerModel", name := "sponge", desc := "()Z" } : Jvm.MethodName)) ∈ vGW := vGW_sel 23 (by decide +kernel) (by decide +kernel)
set_option maxRecDepth 100000 in
theorem vw_1141 : (Jvm.Cond.code ({ cls := "HashTreeSignerModel", name := "sponge", desc := "()Z" } : Jvm.MethodName) prog_14_method_22_code (1 : Nat) (Option.some Jvm.ClassFile.FieldType.boolean)) ∈ vGW := vGW_at 1141 rfl rfl
theorem mX12_198 : vLV RX12 198 yX12_sponge cX12_sponge 1 (some .boolean) 0 9 := ⟨⟨_, rfl, rfl⟩, Or.inl vw_1138, vw_1140, vs_23, vw_15, vw_1141, ⟨by decide +kernel, by decide +kernel⟩, by decide +kernel⟩
theorem vw_1142 : (Jvm.Cond.methodLink "HashTreeSignerModel" (202 : Nat) ({ cls := "HashTreeSignerModel", name := "flip", desc := "(II)V" } : Jvm.MethodName)) ∈ vGW := vGW_at 1142 (by decide +kernel) (by decide +kernel)
theorem vw_1144 : (Jvm.Cond.instanceMethod ({ cls := "HashTreeSignerModel", name := "flip", desc := "(II)V" } : Jvm.MethodName)) ∈ vGW := vGW_at 1144 (by decide +kernel) (by decide +kernel)
theorem vs_24 : (Jvm.Cond.selects "HashTreeSignerModel" ({ cls := "HashTreeSignerModel", name := "flip", desc := "(II)V" } : Jvm.MethodName) ({ cls := "HashTreeSignerModel", name := "flip", desc := "(II)V" } : Jvm.MethodName)) ∈ vGW := vGW_sel 24 (by decide +kernel) (by decide +kernel)
set_option maxRecDepth 100000 in
theorem vw_1145 : (Jvm.Cond.code ({ cls := "HashTreeSignerModel", name := "flip", desc := "(II)V" } : Jvm.MethodName) prog_14_method_26_code (3 : Nat) (Option.none : Option Jvm.ClassFile.FieldType)) ∈ vGW := vGW_at 1145 rfl rfl
theorem mX12_202 : vLV RX12 202 yX12_flip cX12_flip 3 none 2 9 := ⟨⟨_, rfl, rfl⟩, Or.inl vw_1142, vw_1144, vs_24, vw_15, vw_1145, ⟨by decide +kernel, by decide +kernel⟩, by decide +kernel⟩
theorem vw_1147 : (Jvm.Cond.methodLink "HashTreeSignerModel" (206 : Nat) ({ cls := "HashTreeSignerModel", name := "permute", desc := "()V" } : Jvm.MethodName)) ∈ vGW := vGW_at 1147 (by decide +kernel) (by decide +kernel)
theorem vw_1149 : (Jvm.Cond.instanceMethod ({ cls := "HashTreeSignerModel", name := "permute", desc := "()V" } : Jvm.MethodName)) ∈ vGW := vGW_at 1149 (by decide +kernel) (by decide +kernel)
theorem vs_25 : (Jvm.Cond.selects "HashTreeSignerModel" ({ cls := "HashTreeSignerModel", name := "permute", desc := "()V" } : Jvm.MethodName) ({ cls := "HashTreeSignerModel", name := "permute", desc := "()V" } : Jvm.MethodName)) ∈ vGW := vGW_sel 25 (by decide +kernel) (by decide +kernel)
set_option maxRecDepth 100000 in
theorem vw_1150 : (Jvm.Cond.code ({ cls := "HashTreeSignerModel", name := "permute", desc := "()V" } : Jvm.MethodName) prog_14_method_29_code (4 : Nat) (Option.none : Option Jvm.ClassFile.FieldType)) ∈ vGW := vGW_at 1150 rfl rfl
theorem mX12_206 : vLV RX12 206 yX12_permute cX12_permute 4 none 0 9 := ⟨⟨_, rfl, rfl⟩, Or.inl vw_1147, vw_1149, vs_25, vw_15, vw_1150, ⟨by decide +kernel, by decide +kernel⟩, by decide +kernel⟩
theorem vw_1155 : (Jvm.Cond.methodLink "HashTreeSignerModel" (209 : Nat) ({ cls := "HashTreeSignerModel", name := "compress32", desc := "()V" } : Jvm.MethodName)) ∈ vGW := vGW_at 1155 (by decide +kernel) (by decide +kernel)
theorem vw_1157 : (Jvm.Cond.instanceMethod ({ cls := "HashTreeSignerModel", name := "compress32", desc := "()V" } : Jvm.MethodName)) ∈ vGW := vGW_at 1157 (by decide +kernel) (by decide +kernel)
theorem vs_26 : (Jvm.Cond.selects "HashTreeSignerModel" ({ cls := "HashTreeSignerModel", name := "compress32", desc := "()V" } : Jvm.MethodName) ({ cls := "HashTreeSignerModel", name := "compress32", desc := "()V" } : Jvm.MethodName)) ∈ vGW := vGW_sel 26 (by decide +kernel) (by decide +kernel)
set_option maxRecDepth 100000 in
theorem vw_1158 : (Jvm.Cond.code ({ cls := "HashTreeSignerModel", name := "compress32", desc := "()V" } : Jvm.MethodName) prog_14_method_34_code (12 : Nat) (Option.none : Option Jvm.ClassFile.FieldType)) ∈ vGW := vGW_at 1158 rfl rfl
theorem mX12_209 : vLV RX12 209 yX12_compress32 cX12_compress32 12 none 0 9 := ⟨⟨_, rfl, rfl⟩, Or.inl vw_1155, vw_1157, vs_26, vw_15, vw_1158, ⟨by decide +kernel, by decide +kernel⟩, by decide +kernel⟩
theorem vw_1162 : (Jvm.Cond.methodLink "HashTreeSignerModel" (212 : Nat) ({ cls := "HashTreeSignerModel", name := "compress64", desc := "()V" } : Jvm.MethodName)) ∈ vGW := vGW_at 1162 (by decide +kernel) (by decide +kernel)
theorem vw_1164 : (Jvm.Cond.instanceMethod ({ cls := "HashTreeSignerModel", name := "compress64", desc := "()V" } : Jvm.MethodName)) ∈ vGW := vGW_at 1164 (by decide +kernel) (by decide +kernel)
theorem vs_27 : (Jvm.Cond.selects "HashTreeSignerModel" ({ cls := "HashTreeSignerModel", name := "compress64", desc := "()V" } : Jvm.MethodName) ({ cls := "HashTreeSignerModel", name := "compress64", desc := "()V" } : Jvm.MethodName)) ∈ vGW := vGW_sel 27 (by decide +kernel) (by decide +kernel)
set_option maxRecDepth 100000 in
theorem vw_1165 : (Jvm.Cond.code ({ cls := "HashTreeSignerModel", name := "compress64", desc := "()V" } : Jvm.MethodName) prog_14_method_33_code (22 : Nat) (Option.none : Option Jvm.ClassFile.FieldType)) ∈ vGW := vGW_at 1165 rfl rfl
theorem mX12_212 : vLV RX12 212 yX12_compress64 cX12_compress64 22 none 0 9 := ⟨⟨_, rfl, rfl⟩, Or.inl vw_1162, vw_1164, vs_27, vw_15, vw_1165, ⟨by decide +kernel, by decide +kernel⟩, by decide +kernel⟩
theorem vw_1151 : (Jvm.Cond.methodLink "HashTreeSignerModel" (215 : Nat) ({ cls := "HashTreeSignerModel", name := "left", desc := "(JI)J" } : Jvm.MethodName)) ∈ vGW := vGW_at 1151 (by decide +kernel) (by decide +kernel)
theorem vw_1152 : (Jvm.Cond.static ({ cls := "HashTreeSignerModel", name := "left", desc := "(JI)J" } : Jvm.MethodName)) ∈ vGW := vGW_at 1152 (by decide +kernel) (by decide +kernel)
set_option maxRecDepth 100000 in
theorem vw_1153 : (Jvm.Cond.code ({ cls := "HashTreeSignerModel", name := "left", desc := "(JI)J" } : Jvm.MethodName) prog_14_method_30_code (3 : Nat) (Option.some Jvm.ClassFile.FieldType.long)) ∈ vGW := vGW_at 1153 rfl rfl
theorem mX12_215 : vLS RX12 215 yX12_left cX12_left 3 (some .long) 2 := ⟨Or.inl vw_1151, vw_1152, vw_15, vw_1153, ⟨by decide +kernel, by decide +kernel⟩, by decide +kernel⟩
theorem vw_1166 : (Jvm.Cond.methodLink "HashTreeSignerModel" (221 : Nat) ({ cls := "HashTreeSignerModel", name := "right", desc := "(JI)J" } : Jvm.MethodName)) ∈ vGW := vGW_at 1166 (by decide +kernel) (by decide +kernel)
theorem vw_1167 : (Jvm.Cond.static ({ cls := "HashTreeSignerModel", name := "right", desc := "(JI)J" } : Jvm.MethodName)) ∈ vGW := vGW_at 1167 (by decide +kernel) (by decide +kernel)
set_option maxRecDepth 100000 in
theorem vw_1168 : (Jvm.Cond.code ({ cls := "HashTreeSignerModel", name := "right", desc := "(JI)J" } : Jvm.MethodName) prog_14_method_31_code (3 : Nat) (Option.some Jvm.ClassFile.FieldType.long)) ∈ vGW := vGW_at 1168 rfl rfl
theorem mX12_221 : vLS RX12 221 yX12_right cX12_right 3 (some .long) 2 := ⟨Or.inl vw_1166, vw_1167, vw_15, vw_1168, ⟨by decide +kernel, by decide +kernel⟩, by decide +kernel⟩
theorem vw_1159 : (Jvm.Cond.methodLink "HashTreeSignerModel" (224 : Nat) ({ cls := "HashTreeSignerModel", name := "turn", desc := "(II)I" } : Jvm.MethodName)) ∈ vGW := vGW_at 1159 (by decide +kernel) (by decide +kernel)
theorem vw_1160 : (Jvm.Cond.static ({ cls := "HashTreeSignerModel", name := "turn", desc := "(II)I" } : Jvm.MethodName)) ∈ vGW := vGW_at 1160 (by decide +kernel) (by decide +kernel)
set_option maxRecDepth 100000 in
theorem vw_1161 : (Jvm.Cond.code ({ cls := "HashTreeSignerModel", name := "turn", desc := "(II)I" } : Jvm.MethodName) prog_14_method_32_code (2 : Nat) (Option.some Jvm.ClassFile.FieldType.int)) ∈ vGW := vGW_at 1161 rfl rfl
theorem mX12_224 : vLS RX12 224 yX12_turn cX12_turn 2 (some .int) 2 := ⟨Or.inl vw_1159, vw_1160, vw_15, vw_1161, ⟨by decide +kernel, by decide +kernel⟩, by decide +kernel⟩
theorem vw_1412 : (Jvm.Cond.methodLink "HashTreeSignerModel" (229 : Nat) ({ cls := "HashTreeSignerModel", name := "squeeze", desc := "()I" } : Jvm.MethodName)) ∈ vGW := vGW_at 1412 (by decide +kernel) (by decide +kernel)
theorem vw_1414 : (Jvm.Cond.instanceMethod ({ cls := "HashTreeSignerModel", name := "squeeze", desc := "()I" } : Jvm.MethodName)) ∈ vGW := vGW_at 1414 (by decide +kernel) (by decide +kernel)
theorem vs_40 : (Jvm.Cond.selects "HashTreeSignerModel" ({ cls := "HashTreeSignerModel", name := "squeeze", desc := "()I" } : Jvm.MethodName) ({ cls := "HashTreeSignerModel", name := "squeeze", desc := "()I" } : Jvm.MethodName)) ∈ vGW := vGW_sel 40 (by decide +kernel) (by decide +kernel)
set_option maxRecDepth 100000 in
theorem vw_1415 : (Jvm.Cond.code ({ cls := "HashTreeSignerModel", name := "squeeze", desc := "()I" } : Jvm.MethodName) prog_14_method_36_code (2 : Nat) (Option.some Jvm.ClassFile.FieldType.int)) ∈ vGW := vGW_at 1415 rfl rfl
theorem mX12_229 : vLV RX12 229 yX12_squeeze cX12_squeeze 2 (some .int) 0 9 := ⟨⟨_, rfl, rfl⟩, Or.inl vw_1412, vw_1414, vs_40, vw_15, vw_1415, ⟨by decide +kernel, by decide +kernel⟩, by decide +kernel⟩
theorem vw_1404 : (Jvm.Cond.methodLink "HashTreeSignerModel" (233 : Nat) ({ cls := "HashTreeSignerModel", name := "put", desc := "([BII)V" } : Jvm.MethodName)) ∈ vGW := vGW_at 1404 (by decide +kernel) (by decide +kernel)
theorem vw_1406 : (Jvm.Cond.instanceMethod ({ cls := "HashTreeSignerModel", name := "put", desc := "([BII)V" } : Jvm.MethodName)) ∈ vGW := vGW_at 1406 (by decide +kernel) (by decide +kernel)
theorem vs_38 : (Jvm.Cond.selects "HashTreeSignerModel" ({ cls := "HashTreeSignerModel", name := "put", desc := "([BII)V" } : Jvm.MethodName) ({ cls := "HashTreeSignerModel", name := "put", desc := "([BII)V" } : Jvm.MethodName)) ∈ vGW := vGW_sel 38 (by decide +kernel) (by decide +kernel)
set_option maxRecDepth 100000 in
theorem vw_1407 : (Jvm.Cond.code ({ cls := "HashTreeSignerModel", name := "put", desc := "([BII)V" } : Jvm.MethodName) prog_14_method_28_code (5 : Nat) (Option.none : Option Jvm.ClassFile.FieldType)) ∈ vGW := vGW_at 1407 rfl rfl
theorem mX12_233 : vLV RX12 233 yX12_put_ cX12_put_ 5 none 3 9 := ⟨⟨_, rfl, rfl⟩, Or.inl vw_1404, vw_1406, vs_38, vw_15, vw_1407, ⟨by decide +kernel, by decide +kernel⟩, by decide +kernel⟩
theorem vw_1408 : (Jvm.Cond.methodLink "HashTreeSignerModel" (236 : Nat) ({ cls := "HashTreeSignerModel", name := "give", desc := "([BII)V" } : Jvm.MethodName)) ∈ vGW := vGW_at 1408 (by decide +kernel) (by decide +kernel)
theorem vw_1410 : (Jvm.Cond.instanceMethod ({ cls := "HashTreeSignerModel", name := "give", desc := "([BII)V" } : Jvm.MethodName)) ∈ vGW := vGW_at 1410 (by decide +kernel) (by decide +kernel)
theorem vs_39 : (Jvm.Cond.selects "HashTreeSignerModel" ({ cls := "HashTreeSignerModel", name := "give", desc := "([BII)V" } : Jvm.MethodName) ({ cls := "HashTreeSignerModel", name := "give", desc := "([BII)V" } : Jvm.MethodName)) ∈ vGW := vGW_sel 39 (by decide +kernel) (by decide +kernel)
set_option maxRecDepth 100000 in
theorem vw_1411 : (Jvm.Cond.code ({ cls := "HashTreeSignerModel", name := "give", desc := "([BII)V" } : Jvm.MethodName) prog_14_method_37_code (5 : Nat) (Option.none : Option Jvm.ClassFile.FieldType)) ∈ vGW := vGW_at 1411 rfl rfl
theorem mX12_236 : vLV RX12 236 yX12_give cX12_give 5 none 3 9 := ⟨⟨_, rfl, rfl⟩, Or.inl vw_1408, vw_1410, vs_39, vw_15, vw_1411, ⟨by decide +kernel, by decide +kernel⟩, by decide +kernel⟩
theorem vw_1377 : (Jvm.Cond.methodLink "HashTreeSignerModel" (239 : Nat) ({ cls := "HashTreeSignerModel", name := "move", desc := "([BI[BII)V" } : Jvm.MethodName)) ∈ vGW := vGW_at 1377 (by decide +kernel) (by decide +kernel)
theorem vw_1378 : (Jvm.Cond.static ({ cls := "HashTreeSignerModel", name := "move", desc := "([BI[BII)V" } : Jvm.MethodName)) ∈ vGW := vGW_at 1378 (by decide +kernel) (by decide +kernel)
set_option maxRecDepth 100000 in
theorem vw_1379 : (Jvm.Cond.code ({ cls := "HashTreeSignerModel", name := "move", desc := "([BI[BII)V" } : Jvm.MethodName) prog_14_method_14_code (6 : Nat) (Option.none : Option Jvm.ClassFile.FieldType)) ∈ vGW := vGW_at 1379 rfl rfl
theorem mX12_239 : vLS RX12 239 yX12_move cX12_move 6 none 5 := ⟨Or.inl vw_1377, vw_1378, vw_15, vw_1379, ⟨by decide +kernel, by decide +kernel⟩, by decide +kernel⟩
theorem vw_1400 : (Jvm.Cond.methodLink "HashTreeSignerModel" (268 : Nat) ({ cls := "HashTreeSignerModel", name := "hashed", desc := "([BII[BI)V" } : Jvm.MethodName)) ∈ vGW := vGW_at 1400 (by decide +kernel) (by decide +kernel)
theorem vw_1402 : (Jvm.Cond.instanceMethod ({ cls := "HashTreeSignerModel", name := "hashed", desc := "([BII[BI)V" } : Jvm.MethodName)) ∈ vGW := vGW_at 1402 (by decide +kernel) (by decide +kernel)
theorem vs_37 : (Jvm.Cond.selects "HashTreeSignerModel" ({ cls := "HashTreeSignerModel", name := "hashed", desc := "([BII[BI)V" } : Jvm.MethodName) ({ cls := "HashTreeSignerModel", name := "hashed", desc := "([BII[BI)V" } : Jvm.MethodName)) ∈ vGW := vGW_sel 37 (by decide +kernel) (by decide +kernel)
set_option maxRecDepth 100000 in
theorem vw_1403 : (Jvm.Cond.code ({ cls := "HashTreeSignerModel", name := "hashed", desc := "([BII[BI)V" } : Jvm.MethodName) prog_14_method_47_code (8 : Nat) (Option.none : Option Jvm.ClassFile.FieldType)) ∈ vGW := vGW_at 1403 rfl rfl
theorem mX12_268 : vLV RX12 268 yX12_hashed cX12_hashed 8 none 5 9 := ⟨⟨_, rfl, rfl⟩, Or.inl vw_1400, vw_1402, vs_37, vw_15, vw_1403, ⟨by decide +kernel, by decide +kernel⟩, by decide +kernel⟩
theorem vw_1392 : (Jvm.Cond.methodLink "HashTreeSignerModel" (272 : Nat) ({ cls := "HashTreeSignerModel", name := "type", desc := "(IIII)V" } : Jvm.MethodName)) ∈ vGW := vGW_at 1392 (by decide +kernel) (by decide +kernel)
theorem vw_1394 : (Jvm.Cond.instanceMethod ({ cls := "HashTreeSignerModel", name := "type", desc := "(IIII)V" } : Jvm.MethodName)) ∈ vGW := vGW_at 1394 (by decide +kernel) (by decide +kernel)
theorem vs_35 : (Jvm.Cond.selects "HashTreeSignerModel" ({ cls := "HashTreeSignerModel", name := "type", desc := "(IIII)V" } : Jvm.MethodName) ({ cls := "HashTreeSignerModel", name := "type", desc := "(IIII)V" } : Jvm.MethodName)) ∈ vGW := vGW_sel 35 (by decide +kernel) (by decide +kernel)
set_option maxRecDepth 100000 in
theorem vw_1395 : (Jvm.Cond.code ({ cls := "HashTreeSignerModel", name := "type", desc := "(IIII)V" } : Jvm.MethodName) prog_14_method_46_code (6 : Nat) (Option.none : Option Jvm.ClassFile.FieldType)) ∈ vGW := vGW_at 1395 rfl rfl
theorem mX12_272 : vLV RX12 272 yX12_type cX12_type 6 none 4 9 := ⟨⟨_, rfl, rfl⟩, Or.inl vw_1392, vw_1394, vs_35, vw_15, vw_1395, ⟨by decide +kernel, by decide +kernel⟩, by decide +kernel⟩
theorem vw_1396 : (Jvm.Cond.methodLink "HashTreeSignerModel" (276 : Nat) ({ cls := "HashTreeSignerModel", name := "pseudo", desc := "([BI)V" } : Jvm.MethodName)) ∈ vGW := vGW_at 1396 (by decide +kernel) (by decide +kernel)
theorem vw_1398 : (Jvm.Cond.instanceMethod ({ cls := "HashTreeSignerModel", name := "pseudo", desc := "([BI)V" } : Jvm.MethodName)) ∈ vGW := vGW_at 1398 (by decide +kernel) (by decide +kernel)
theorem vs_36 : (Jvm.Cond.selects "HashTreeSignerModel" ({ cls := "HashTreeSignerModel", name := "pseudo", desc := "([BI)V" } : Jvm.MethodName) ({ cls := "HashTreeSignerModel", name := "pseudo", desc := "([BI)V" } : Jvm.MethodName)) ∈ vGW := vGW_sel 36 (by decide +kernel) (by decide +kernel)
set_option maxRecDepth 100000 in
theorem vw_1399 : (Jvm.Cond.code ({ cls := "HashTreeSignerModel", name := "pseudo", desc := "([BI)V" } : Jvm.MethodName) prog_14_method_48_code (3 : Nat) (Option.none : Option Jvm.ClassFile.FieldType)) ∈ vGW := vGW_at 1399 rfl rfl
theorem mX12_276 : vLV RX12 276 yX12_pseudo cX12_pseudo 3 none 2 9 := ⟨⟨_, rfl, rfl⟩, Or.inl vw_1396, vw_1398, vs_36, vw_15, vw_1399, ⟨by decide +kernel, by decide +kernel⟩, by decide +kernel⟩
theorem vw_1416 : (Jvm.Cond.methodLink "HashTreeSignerModel" (280 : Nat) ({ cls := "HashTreeSignerModel", name := "chain", desc := "(IIII[BI)V" } : Jvm.MethodName)) ∈ vGW := vGW_at 1416 (by decide +kernel) (by decide +kernel)
theorem vw_1418 : (Jvm.Cond.instanceMethod ({ cls := "HashTreeSignerModel", name := "chain", desc := "(IIII[BI)V" } : Jvm.MethodName)) ∈ vGW := vGW_at 1418 (by decide +kernel) (by decide +kernel)
theorem vs_41 : (Jvm.Cond.selects "HashTreeSignerModel" ({ cls := "HashTreeSignerModel", name := "chain", desc := "(IIII[BI)V" } : Jvm.MethodName) ({ cls := "HashTreeSignerModel", name := "chain", desc := "(IIII[BI)V" } : Jvm.MethodName)) ∈ vGW := vGW_sel 41 (by decide +kernel) (by decide +kernel)
set_option maxRecDepth 100000 in
theorem vw_1419 : (Jvm.Cond.code ({ cls := "HashTreeSignerModel", name := "chain", desc := "(IIII[BI)V" } : Jvm.MethodName) prog_14_method_49_code (8 : Nat) (Option.none : Option Jvm.ClassFile.FieldType)) ∈ vGW := vGW_at 1419 rfl rfl
theorem mX12_280 : vLV RX12 280 yX12_chain cX12_chain 8 none 6 9 := ⟨⟨_, rfl, rfl⟩, Or.inl vw_1416, vw_1418, vs_41, vw_15, vw_1419, ⟨by decide +kernel, by decide +kernel⟩, by decide +kernel⟩
theorem vw_1388 : (Jvm.Cond.methodLink "HashTreeSignerModel" (284 : Nat) ({ cls := "HashTreeSignerModel", name := "leaf", desc := "(I[BI)V" } : Jvm.MethodName)) ∈ vGW := vGW_at 1388 (by decide +kernel) (by decide +kernel)
theorem vw_1390 : (Jvm.Cond.instanceMethod ({ cls := "HashTreeSignerModel", name := "leaf", desc := "(I[BI)V" } : Jvm.MethodName)) ∈ vGW := vGW_at 1390 (by decide +kernel) (by decide +kernel)
theorem vs_34 : (Jvm.Cond.selects "HashTreeSignerModel" ({ cls := "HashTreeSignerModel", name := "leaf", desc := "(I[BI)V" } : Jvm.MethodName) ({ cls := "HashTreeSignerModel", name := "leaf", desc := "(I[BI)V" } : Jvm.MethodName)) ∈ vGW := vGW_sel 34 (by decide +kernel) (by decide +kernel)
set_option maxRecDepth 100000 in
theorem vw_1391 : (Jvm.Cond.code ({ cls := "HashTreeSignerModel", name := "leaf", desc := "(I[BI)V" } : Jvm.MethodName) prog_14_method_50_code (5 : Nat) (Option.none : Option Jvm.ClassFile.FieldType)) ∈ vGW := vGW_at 1391 rfl rfl
theorem mX12_284 : vLV RX12 284 yX12_leaf cX12_leaf 5 none 3 9 := ⟨⟨_, rfl, rfl⟩, Or.inl vw_1388, vw_1390, vs_34, vw_15, vw_1391, ⟨by decide +kernel, by decide +kernel⟩, by decide +kernel⟩
theorem vw_1384 : (Jvm.Cond.methodLink "HashTreeSignerModel" (288 : Nat) ({ cls := "HashTreeSignerModel", name := "node", desc := "(II[BI)V" } : Jvm.MethodName)) ∈ vGW := vGW_at 1384 (by decide +kernel) (by decide +kernel)
theorem vw_1386 : (Jvm.Cond.instanceMethod ({ cls := "HashTreeSignerModel", name := "node", desc := "(II[BI)V" } : Jvm.MethodName)) ∈ vGW := vGW_at 1386 (by decide +kernel) (by decide +kernel)
theorem vs_33 : (Jvm.Cond.selects "HashTreeSignerModel" ({ cls := "HashTreeSignerModel", name := "node", desc := "(II[BI)V" } : Jvm.MethodName) ({ cls := "HashTreeSignerModel", name := "node", desc := "(II[BI)V" } : Jvm.MethodName)) ∈ vGW := vGW_sel 33 (by decide +kernel) (by decide +kernel)
set_option maxRecDepth 100000 in
theorem vw_1387 : (Jvm.Cond.code ({ cls := "HashTreeSignerModel", name := "node", desc := "(II[BI)V" } : Jvm.MethodName) prog_14_method_51_code (6 : Nat) (Option.none : Option Jvm.ClassFile.FieldType)) ∈ vGW := vGW_at 1387 rfl rfl
theorem mX12_288 : vLV RX12 288 yX12_node cX12_node 6 none 4 9 := ⟨⟨_, rfl, rfl⟩, Or.inl vw_1384, vw_1386, vs_33, vw_15, vw_1387, ⟨by decide +kernel, by decide +kernel⟩, by decide +kernel⟩
theorem vw_1488 : (Jvm.Cond.methodLink "HashTreeSignerModel" (292 : Nat) ({ cls := "HashTreeSignerModel", name := "digitsOf", desc := "([BI)V" } : Jvm.MethodName)) ∈ vGW := vGW_at 1488 (by decide +kernel) (by decide +kernel)
theorem vw_1490 : (Jvm.Cond.instanceMethod ({ cls := "HashTreeSignerModel", name := "digitsOf", desc := "([BI)V" } : Jvm.MethodName)) ∈ vGW := vGW_at 1490 (by decide +kernel) (by decide +kernel)
theorem vs_58 : (Jvm.Cond.selects "HashTreeSignerModel" ({ cls := "HashTreeSignerModel", name := "digitsOf", desc := "([BI)V" } : Jvm.MethodName) ({ cls := "HashTreeSignerModel", name := "digitsOf", desc := "([BI)V" } : Jvm.MethodName)) ∈ vGW := vGW_sel 58 (by decide +kernel) (by decide +kernel)
set_option maxRecDepth 100000 in
theorem vw_1491 : (Jvm.Cond.code ({ cls := "HashTreeSignerModel", name := "digitsOf", desc := "([BI)V" } : Jvm.MethodName) prog_14_method_52_code (5 : Nat) (Option.none : Option Jvm.ClassFile.FieldType)) ∈ vGW := vGW_at 1491 rfl rfl
theorem mX12_292 : vLV RX12 292 yX12_digitsOf cX12_digitsOf 5 none 2 9 := ⟨⟨_, rfl, rfl⟩, Or.inl vw_1488, vw_1490, vs_58, vw_15, vw_1491, ⟨by decide +kernel, by decide +kernel⟩, by decide +kernel⟩
theorem vw_1480 : (Jvm.Cond.methodLink "HashTreeSignerModel" (295 : Nat) ({ cls := "HashTreeSignerModel", name := "climb", desc := "(IIII[BI)V" } : Jvm.MethodName)) ∈ vGW := vGW_at 1480 (by decide +kernel) (by decide +kernel)
theorem vw_1482 : (Jvm.Cond.instanceMethod ({ cls := "HashTreeSignerModel", name := "climb", desc := "(IIII[BI)V" } : Jvm.MethodName)) ∈ vGW := vGW_at 1482 (by decide +kernel) (by decide +kernel)
theorem vs_56 : (Jvm.Cond.selects "HashTreeSignerModel" ({ cls := "HashTreeSignerModel", name := "climb", desc := "(IIII[BI)V" } : Jvm.MethodName) ({ cls := "HashTreeSignerModel", name := "climb", desc := "(IIII[BI)V" } : Jvm.MethodName)) ∈ vGW := vGW_sel 56 (by decide +kernel) (by decide +kernel)
set_option maxRecDepth 100000 in
theorem vw_1483 : (Jvm.Cond.code ({ cls := "HashTreeSignerModel", name := "climb", desc := "(IIII[BI)V" } : Jvm.MethodName) prog_14_method_54_code (9 : Nat) (Option.none : Option Jvm.ClassFile.FieldType)) ∈ vGW := vGW_at 1483 rfl rfl
theorem mX12_295 : vLV RX12 295 yX12_climb cX12_climb 9 none 6 9 := ⟨⟨_, rfl, rfl⟩, Or.inl vw_1480, vw_1482, vs_56, vw_15, vw_1483, ⟨by decide +kernel, by decide +kernel⟩, by decide +kernel⟩
theorem vw_1472 : (Jvm.Cond.methodLink "HashTreeSignerModel" (298 : Nat) ({ cls := "HashTreeSignerModel", name := "forestNode", desc := "(III[BI)V" } : Jvm.MethodName)) ∈ vGW := vGW_at 1472 (by decide +kernel) (by decide +kernel)
theorem vw_1474 : (Jvm.Cond.instanceMethod ({ cls := "HashTreeSignerModel", name := "forestNode", desc := "(III[BI)V" } : Jvm.MethodName)) ∈ vGW := vGW_at 1474 (by decide +kernel) (by decide +kernel)
theorem vs_54 : (Jvm.Cond.selects "HashTreeSignerModel" ({ cls := "HashTreeSignerModel", name := "forestNode", desc := "(III[BI)V" } : Jvm.MethodName) ({ cls := "HashTreeSignerModel", name := "forestNode", desc := "(III[BI)V" } : Jvm.MethodName)) ∈ vGW := vGW_sel 54 (by decide +kernel) (by decide +kernel)
set_option maxRecDepth 100000 in
theorem vw_1475 : (Jvm.Cond.code ({ cls := "HashTreeSignerModel", name := "forestNode", desc := "(III[BI)V" } : Jvm.MethodName) prog_14_method_56_code (7 : Nat) (Option.none : Option Jvm.ClassFile.FieldType)) ∈ vGW := vGW_at 1475 rfl rfl
theorem mX12_298 : vLV RX12 298 yX12_forestNode cX12_forestNode 7 none 5 9 := ⟨⟨_, rfl, rfl⟩, Or.inl vw_1472, vw_1474, vs_54, vw_15, vw_1475, ⟨by decide +kernel, by decide +kernel⟩, by decide +kernel⟩
theorem vw_1468 : (Jvm.Cond.methodLink "HashTreeSignerModel" (302 : Nat) ({ cls := "HashTreeSignerModel", name := "numberOf", desc := "(I)I" } : Jvm.MethodName)) ∈ vGW := vGW_at 1468 (by decide +kernel) (by decide +kernel)
theorem vw_1470 : (Jvm.Cond.instanceMethod ({ cls := "HashTreeSignerModel", name := "numberOf", desc := "(I)I" } : Jvm.MethodName)) ∈ vGW := vGW_at 1470 (by decide +kernel) (by decide +kernel)
theorem vs_53 : (Jvm.Cond.selects "HashTreeSignerModel" ({ cls := "HashTreeSignerModel", name := "numberOf", desc := "(I)I" } : Jvm.MethodName) ({ cls := "HashTreeSignerModel", name := "numberOf", desc := "(I)I" } : Jvm.MethodName)) ∈ vGW := vGW_sel 53 (by decide +kernel) (by decide +kernel)
set_option maxRecDepth 100000 in
theorem vw_1471 : (Jvm.Cond.code ({ cls := "HashTreeSignerModel", name := "numberOf", desc := "(I)I" } : Jvm.MethodName) prog_14_method_57_code (4 : Nat) (Option.some Jvm.ClassFile.FieldType.int)) ∈ vGW := vGW_at 1471 rfl rfl
theorem mX12_302 : vLV RX12 302 yX12_numberOf cX12_numberOf 4 (some .int) 1 9 := ⟨⟨_, rfl, rfl⟩, Or.inl vw_1468, vw_1470, vs_53, vw_15, vw_1471, ⟨by decide +kernel, by decide +kernel⟩, by decide +kernel⟩
theorem vw_1428 : (Jvm.Cond.methodLink "HashTreeSignerModel" (305 : Nat) ({ cls := "HashTreeSignerModel", name := "before", desc := "(I)V" } : Jvm.MethodName)) ∈ vGW := vGW_at 1428 (by decide +kernel) (by decide +kernel)
theorem vw_1430 : (Jvm.Cond.instanceMethod ({ cls := "HashTreeSignerModel", name := "before", desc := "(I)V" } : Jvm.MethodName)) ∈ vGW := vGW_at 1430 (by decide +kernel) (by decide +kernel)
theorem vs_43 : (Jvm.Cond.selects "HashTreeSignerModel" ({ cls := "HashTreeSignerModel", name := "before", desc := "(I)V" } : Jvm.MethodName) ({ cls := "HashTreeSignerModel", name := "before", desc := "(I)V" } : Jvm.MethodName)) ∈ vGW := vGW_sel 43 (by decide +kernel) (by decide +kernel)
set_option maxRecDepth 100000 in
theorem vw_1431 : (Jvm.Cond.code ({ cls := "HashTreeSignerModel", name := "before", desc := "(I)V" } : Jvm.MethodName) prog_14_method_41_code (2 : Nat) (Option.none : Option Jvm.ClassFile.FieldType)) ∈ vGW := vGW_at 1431 rfl rfl
theorem mX12_305 : vLV RX12 305 yX12_before cX12_before 2 none 1 9 := ⟨⟨_, rfl, rfl⟩, Or.inl vw_1428, vw_1430, vs_43, vw_15, vw_1431, ⟨by decide +kernel, by decide +kernel⟩, by decide +kernel⟩
theorem vw_1432 : (Jvm.Cond.methodLink "HashTreeSignerModel" (308 : Nat) ({ cls := "HashTreeSignerModel", name := "large", desc := "()I" } : Jvm.MethodName)) ∈ vGW := vGW_at 1432 (by decide +kernel) (by decide +kernel)
theorem vw_1434 : (Jvm.Cond.instanceMethod ({ cls := "HashTreeSignerModel", name := "large", desc := "()I" } : Jvm.MethodName)) ∈ vGW := vGW_at 1434 (by decide +kernel) (by decide +kernel)
theorem vs_44 : (Jvm.Cond.selects "HashTreeSignerModel" ({ cls := "HashTreeSignerModel", name := "large", desc := "()I" } : Jvm.MethodName) ({ cls := "HashTreeSignerModel", name := "large", desc := "()I" } : Jvm.MethodName)) ∈ vGW := vGW_sel 44 (by decide +kernel) (by decide +kernel)
set_option maxRecDepth 100000 in
theorem vw_1435 : (Jvm.Cond.code ({ cls := "HashTreeSignerModel", name := "large", desc := "()I" } : Jvm.MethodName) prog_14_method_60_code (1 : Nat) (Option.some Jvm.ClassFile.FieldType.int)) ∈ vGW := vGW_at 1435 rfl rfl
theorem mX12_308 : vLV RX12 308 yX12_large cX12_large 1 (some .int) 0 9 := ⟨⟨_, rfl, rfl⟩, Or.inl vw_1432, vw_1434, vs_44, vw_15, vw_1435, ⟨by decide +kernel, by decide +kernel⟩, by decide +kernel⟩
theorem vw_1440 : (Jvm.Cond.methodLink "HashTreeSignerModel" (311 : Nat) ({ cls := "HashTreeSignerModel", name := "putSigned", desc := "(I)V" } : Jvm.MethodName)) ∈ vGW := vGW_at 1440 (by decide +kernel) (by decide +kernel)
theorem vw_1442 : (Jvm.Cond.instanceMethod ({ cls := "HashTreeSignerModel", name := "putSigned", desc := "(I)V" } : Jvm.MethodName)) ∈ vGW := vGW_at 1442 (by decide +kernel) (by decide +kernel)
theorem vs_46 : (Jvm.Cond.selects "HashTreeSignerModel" ({ cls := "HashTreeSignerModel", name := "putSigned", desc := "(I)V" } : Jvm.MethodName) ({ cls := "HashTreeSignerModel", name := "putSigned", desc := "(I)V" } : Jvm.MethodName)) ∈ vGW := vGW_sel 46 (by decide +kernel) (by decide +kernel)
set_option maxRecDepth 100000 in
theorem vw_1443 : (Jvm.Cond.code ({ cls := "HashTreeSignerModel", name := "putSigned", desc := "(I)V" } : Jvm.MethodName) prog_14_method_42_code (2 : Nat) (Option.none : Option Jvm.ClassFile.FieldType)) ∈ vGW := vGW_at 1443 rfl rfl
theorem mX12_311 : vLV RX12 311 yX12_putSigned cX12_putSigned 2 none 1 9 := ⟨⟨_, rfl, rfl⟩, Or.inl vw_1440, vw_1442, vs_46, vw_15, vw_1443, ⟨by decide +kernel, by decide +kernel⟩, by decide +kernel⟩
theorem vw_1452 : (Jvm.Cond.methodLink "HashTreeSignerModel" (314 : Nat) ({ cls := "HashTreeSignerModel", name := "mask", desc := "(I[BI[BII)V" } : Jvm.MethodName)) ∈ vGW := vGW_at 1452 (by decide +kernel) (by decide +kernel)
theorem vw_1454 : (Jvm.Cond.instanceMethod ({ cls := "HashTreeSignerModel", name := "mask", desc := "(I[BI[BII)V" } : Jvm.MethodName)) ∈ vGW := vGW_at 1454 (by decide +kernel) (by decide +kernel)
theorem vs_49 : (Jvm.Cond.selects "HashTreeSignerModel" ({ cls := "HashTreeSignerModel", name := "mask", desc := "(I[BI[BII)V" } : Jvm.MethodName) ({ cls := "HashTreeSignerModel", name := "mask", desc := "(I[BI[BII)V" } : Jvm.MethodName)) ∈ vGW := vGW_sel 49 (by decide +kernel) (by decide +kernel)
set_option maxRecDepth 100000 in
theorem vw_1455 : (Jvm.Cond.code ({ cls := "HashTreeSignerModel", name := "mask", desc := "(I[BI[BII)V" } : Jvm.MethodName) prog_14_method_40_code (10 : Nat) (Option.none : Option Jvm.ClassFile.FieldType)) ∈ vGW := vGW_at 1455 rfl rfl
theorem mX12_314 : vLV RX12 314 yX12_mask cX12_mask 10 none 6 9 := ⟨⟨_, rfl, rfl⟩, Or.inl vw_1452, vw_1454, vs_49, vw_15, vw_1455, ⟨by decide +kernel, by decide +kernel⟩, by decide +kernel⟩
theorem vw_1373 : (Jvm.Cond.methodLink "HashTreeSignerModel" (318 : Nat) ({ cls := "HashTreeSignerModel", name := "slh", desc := "(I)V" } : Jvm.MethodName)) ∈ vGW := vGW_at 1373 (by decide +kernel) (by decide +kernel)
theorem vw_1375 : (Jvm.Cond.instanceMethod ({ cls := "HashTreeSignerModel", name := "slh", desc := "(I)V" } : Jvm.MethodName)) ∈ vGW := vGW_at 1375 (by decide +kernel) (by decide +kernel)
theorem vs_31 : (Jvm.Cond.selects "HashTreeSignerModel" ({ cls := "HashTreeSignerModel", name := "slh", desc := "(I)V" } : Jvm.MethodName) ({ cls := "HashTreeSignerModel", name := "slh", desc := "(I)V" } : Jvm.MethodName)) ∈ vGW := vGW_sel 31 (by decide +kernel) (by decide +kernel)
set_option maxRecDepth 100000 in
theorem vw_1376 : (Jvm.Cond.code ({ cls := "HashTreeSignerModel", name := "slh", desc := "(I)V" } : Jvm.MethodName) prog_14_method_44_code (4 : Nat) (Option.none : Option Jvm.ClassFile.FieldType)) ∈ vGW := vGW_at 1376 rfl rfl
theorem mX12_318 : vLV RX12 318 yX12_slh cX12_slh 4 none 1 9 := ⟨⟨_, rfl, rfl⟩, Or.inl vw_1373, vw_1375, vs_31, vw_15, vw_1376, ⟨by decide +kernel, by decide +kernel⟩, by decide +kernel⟩
theorem vw_1380 : (Jvm.Cond.methodLink "HashTreeSignerModel" (321 : Nat) ({ cls := "HashTreeSignerModel", name := "place", desc := "(IJ)V" } : Jvm.MethodName)) ∈ vGW := vGW_at 1380 (by decide +kernel) (by decide +kernel)
theorem vw_1382 : (Jvm.Cond.instanceMethod ({ cls := "HashTreeSignerModel", name := "place", desc := "(IJ)V" } : Jvm.MethodName)) ∈ vGW := vGW_at 1382 (by decide +kernel) (by decide +kernel)
theorem vs_32 : (Jvm.Cond.selects "HashTreeSignerModel" ({ cls := "HashTreeSignerModel", name := "place", desc := "(IJ)V" } : Jvm.MethodName) ({ cls := "HashTreeSignerModel", name := "place", desc := "(IJ)V" } : Jvm.MethodName)) ∈ vGW := vGW_sel 32 (by decide +kernel) (by decide +kernel)
set_option maxRecDepth 100000 in
theorem vw_1383 : (Jvm.Cond.code ({ cls := "HashTreeSignerModel", name := "place", desc := "(IJ)V" } : Jvm.MethodName) prog_14_method_45_code (5 : Nat) (Option.none : Option Jvm.ClassFile.FieldType)) ∈ vGW := vGW_at 1383 rfl rfl
theorem mX12_321 : vLV RX12 321 yX12_place cX12_place 5 none 2 9 := ⟨⟨_, rfl, rfl⟩, Or.inl vw_1380, vw_1382, vs_32, vw_15, vw_1383, ⟨by decide +kernel, by decide +kernel⟩, by decide +kernel⟩
theorem vw_1424 : (Jvm.Cond.methodLink "HashTreeSignerModel" (325 : Nat) ({ cls := "HashTreeSignerModel", name := "context", desc := "(I)Z" } : Jvm.MethodName)) ∈ vGW := vGW_at 1424 (by decide +kernel) (by decide +kernel)
theorem vw_1426 : (Jvm.Cond.instanceMethod ({ cls := "HashTreeSignerModel", name := "context", desc := "(I)Z" } : Jvm.MethodName)) ∈ vGW := vGW_at 1426 (by decide +kernel) (by decide +kernel)
theorem vs_42 : (Jvm.Cond.selects "HashTreeSignerModel" ({ cls := "HashTreeSignerModel", name := "context", desc := "(I)Z" } : Jvm.MethodName) ({ cls := "HashTreeSignerModel", name := "context", desc := "(I)Z" } : Jvm.MethodName)) ∈ vGW := vGW_sel 42 (by decide +kernel) (by decide +kernel)
set_option maxRecDepth 100000 in
theorem vw_1427 : (Jvm.Cond.code ({ cls := "HashTreeSignerModel", name := "context", desc := "(I)Z" } : Jvm.MethodName) prog_14_method_43_code (2 : Nat) (Option.some Jvm.ClassFile.FieldType.boolean)) ∈ vGW := vGW_at 1427 rfl rfl
theorem mX12_325 : vLV RX12 325 yX12_context cX12_context 2 (some .boolean) 1 9 := ⟨⟨_, rfl, rfl⟩, Or.inl vw_1424, vw_1426, vs_42, vw_15, vw_1427, ⟨by decide +kernel, by decide +kernel⟩, by decide +kernel⟩
theorem vw_1436 : (Jvm.Cond.methodLink "HashTreeSignerModel" (328 : Nat) ({ cls := "HashTreeSignerModel", name := "startMac", desc := "(I[BII)V" } : Jvm.MethodName)) ∈ vGW := vGW_at 1436 (by decide +kernel) (by decide +kernel)
theorem vw_1438 : (Jvm.Cond.instanceMethod ({ cls := "HashTreeSignerModel", name := "startMac", desc := "(I[BII)V" } : Jvm.MethodName)) ∈ vGW := vGW_at 1438 (by decide +kernel) (by decide +kernel)
theorem vs_45 : (Jvm.Cond.selects "HashTreeSignerModel" ({ cls := "HashTreeSignerModel", name := "startMac", desc := "(I[BII)V" } : Jvm.MethodName) ({ cls := "HashTreeSignerModel", name := "startMac", desc := "(I[BII)V" } : Jvm.MethodName)) ∈ vGW := vGW_sel 45 (by decide +kernel) (by decide +kernel)
set_option maxRecDepth 100000 in
theorem vw_1439 : (Jvm.Cond.code ({ cls := "HashTreeSignerModel", name := "startMac", desc := "(I[BII)V" } : Jvm.MethodName) prog_14_method_38_code (7 : Nat) (Option.none : Option Jvm.ClassFile.FieldType)) ∈ vGW := vGW_at 1439 rfl rfl
theorem mX12_328 : vLV RX12 328 yX12_startMac cX12_startMac 7 none 4 9 := ⟨⟨_, rfl, rfl⟩, Or.inl vw_1436, vw_1438, vs_45, vw_15, vw_1439, ⟨by decide +kernel, by decide +kernel⟩, by decide +kernel⟩
theorem vw_1444 : (Jvm.Cond.methodLink "HashTreeSignerModel" (332 : Nat) ({ cls := "HashTreeSignerModel", name := "endMac", desc := "(I[BII)V" } : Jvm.MethodName)) ∈ vGW := vGW_at 1444 (by decide +kernel) (by decide +kernel)
theorem vw_1446 : (Jvm.Cond.instanceMethod ({ cls := "HashTreeSignerModel", name := "endMac", desc := "(I[BII)V" } : Jvm.MethodName)) ∈ vGW := vGW_at 1446 (by decide +kernel) (by decide +kernel)
theorem vs_47 : (Jvm.Cond.selects "HashTreeSignerModel" ({ cls := "HashTreeSignerModel", name := "endMac", desc := "(I[BII)V" } : Jvm.MethodName) ({ cls := "HashTreeSignerModel", name := "endMac", desc := "(I[BII)V" } : Jvm.MethodName)) ∈ vGW := vGW_sel 47 (by decide +kernel) (by decide +kernel)
set_option maxRecDepth 100000 in
theorem vw_1447 : (Jvm.Cond.code ({ cls := "HashTreeSignerModel", name := "endMac", desc := "(I[BII)V" } : Jvm.MethodName) prog_14_method_39_code (7 : Nat) (Option.none : Option Jvm.ClassFile.FieldType)) ∈ vGW := vGW_at 1447 rfl rfl
theorem mX12_332 : vLV RX12 332 yX12_endMac cX12_endMac 7 none 4 9 := ⟨⟨_, rfl, rfl⟩, Or.inl vw_1444, vw_1446, vs_47, vw_15, vw_1447, ⟨by decide +kernel, by decide +kernel⟩, by decide +kernel⟩
theorem vw_1448 : (Jvm.Cond.methodLink "HashTreeSignerModel" (335 : Nat) ({ cls := "HashTreeSignerModel", name := "digestTree", desc := "([BII)V" } : Jvm.MethodName)) ∈ vGW := vGW_at 1448 (by decide +kernel) (by decide +kernel)
theorem vw_1450 : (Jvm.Cond.instanceMethod ({ cls := "HashTreeSignerModel", name := "digestTree", desc := "([BII)V" } : Jvm.MethodName)) ∈ vGW := vGW_at 1450 (by decide +kernel) (by decide +kernel)
theorem vs_48 : (Jvm.Cond.selects "HashTreeSignerModel" ({ cls := "HashTreeSignerModel", name := "digestTree", desc := "([BII)V" } : Jvm.MethodName) ({ cls := "HashTreeSignerModel", name := "digestTree", desc := "([BII)V" } : Jvm.MethodName)) ∈ vGW := vGW_sel 48 (by decide +kernel) (by decide +kernel)
set_option maxRecDepth 100000 in
theorem vw_1451 : (Jvm.Cond.code ({ cls := "HashTreeSignerModel", name := "digestTree", desc := "([BII)V" } : Jvm.MethodName) prog_14_method_61_code (6 : Nat) (Option.none : Option Jvm.ClassFile.FieldType)) ∈ vGW := vGW_at 1451 rfl rfl
theorem mX12_335 : vLV RX12 335 yX12_digestTree cX12_digestTree 6 none 3 9 := ⟨⟨_, rfl, rfl⟩, Or.inl vw_1448, vw_1450, vs_48, vw_15, vw_1451, ⟨by decide +kernel, by decide +kernel⟩, by decide +kernel⟩
theorem vw_1456 : (Jvm.Cond.methodLink "HashTreeSignerModel" (338 : Nat) ({ cls := "HashTreeSignerModel", name := "treeNumber", desc := "()J" } : Jvm.MethodName)) ∈ vGW := vGW_at 1456 (by decide +kernel) (by decide +kernel)
theorem vw_1458 : (Jvm.Cond.instanceMethod ({ cls := "HashTreeSignerModel", name := "treeNumber", desc := "()J" } : Jvm.MethodName)) ∈ vGW := vGW_at 1458 (by decide +kernel) (by decide +kernel)
theorem vs_50 : (Jvm.Cond.selects "HashTreeSignerModel" ({ cls := "HashTreeSignerModel", name := "treeNumber", desc := "()J" } : Jvm.MethodName) ({ cls := "HashTreeSignerModel", name := "treeNumber", desc := "()J" } : Jvm.MethodName)) ∈ vGW := vGW_sel 50 (by decide +kernel) (by decide +kernel)
set_option maxRecDepth 100000 in
theorem vw_1459 : (Jvm.Cond.code ({ cls := "HashTreeSignerModel", name := "treeNumber", desc := "()J" } : Jvm.MethodName) prog_14_method_62_code (6 : Nat) (Option.some Jvm.ClassFile.FieldType.long)) ∈ vGW := vGW_at 1459 rfl rfl
theorem mX12_338 : vLV RX12 338 yX12_treeNumber cX12_treeNumber 6 (some .long) 0 9 := ⟨⟨_, rfl, rfl⟩, Or.inl vw_1456, vw_1458, vs_50, vw_15, vw_1459, ⟨by decide +kernel, by decide +kernel⟩, by decide +kernel⟩
theorem vw_1460 : (Jvm.Cond.methodLink "HashTreeSignerModel" (342 : Nat) ({ cls := "HashTreeSignerModel", name := "pairNumber", desc := "()I" } : Jvm.MethodName)) ∈ vGW := vGW_at 1460 (by decide +kernel) (by decide +kernel)
theorem vw_1462 : (Jvm.Cond.instanceMethod ({ cls := "HashTreeSignerModel", name := "pairNumber", desc := "()I" } : Jvm.MethodName)) ∈ vGW := vGW_at 1462 (by decide +kernel) (by decide +kernel)
theorem vs_51 : (Jvm.Cond.selects "HashTreeSignerModel" ({ cls := "HashTreeSignerModel", name := "pairNumber", desc := "()I" } : Jvm.MethodName) ({ cls := "HashTreeSignerModel", name := "pairNumber", desc := "()I" } : Jvm.MethodName)) ∈ vGW := vGW_sel 51 (by decide +kernel) (by decide +kernel)
set_option maxRecDepth 100000 in
theorem vw_1463 : (Jvm.Cond.code ({ cls := "HashTreeSignerModel", name := "pairNumber", desc := "()I" } : Jvm.MethodName) prog_14_method_63_code (5 : Nat) (Option.some Jvm.ClassFile.FieldType.int)) ∈ vGW := vGW_at 1463 rfl rfl
theorem mX12_342 : vLV RX12 342 yX12_pairNumber cX12_pairNumber 5 (some .int) 0 9 := ⟨⟨_, rfl, rfl⟩, Or.inl vw_1460, vw_1462, vs_51, vw_15, vw_1463, ⟨by decide +kernel, by decide +kernel⟩, by decide +kernel⟩
theorem vw_1464 : (Jvm.Cond.methodLink "HashTreeSignerModel" (345 : Nat) ({ cls := "HashTreeSignerModel", name := "signForest", desc := "(I[BI)V" } : Jvm.MethodName)) ∈ vGW := vGW_at 1464 (by decide +kernel) (by decide +kernel)
theorem vw_1466 : (Jvm.Cond.instanceMethod ({ cls := "HashTreeSignerModel", name := "signForest", desc := "(I[BI)V" } : Jvm.MethodName)) ∈ vGW := vGW_at 1466 (by decide +kernel) (by decide +kernel)
theorem vs_52 : (Jvm.Cond.selects "HashTreeSignerModel" ({ cls := "HashTreeSignerModel", name := "signForest", desc := "(I[BI)V" } : Jvm.MethodName) ({ cls := "HashTreeSignerModel", name := "signForest", desc := "(I[BI)V" } : Jvm.MethodName)) ∈ vGW := vGW_sel 52 (by decide +kernel) (by decide +kernel)
set_option maxRecDepth 100000 in
theorem vw_1467 : (Jvm.Cond.code ({ cls := "HashTreeSignerModel", name := "signForest", desc := "(I[BI)V" } : Jvm.MethodName) prog_14_method_58_code (8 : Nat) (Option.none : Option Jvm.ClassFile.FieldType)) ∈ vGW := vGW_at 1467 rfl rfl
theorem mX12_345 : vLV RX12 345 yX12_signForest cX12_signForest 8 none 3 9 := ⟨⟨_, rfl, rfl⟩, Or.inl vw_1464, vw_1466, vs_52, vw_15, vw_1467, ⟨by decide +kernel, by decide +kernel⟩, by decide +kernel⟩
theorem vw_1476 : (Jvm.Cond.methodLink "HashTreeSignerModel" (348 : Nat) ({ cls := "HashTreeSignerModel", name := "rootOfForest", desc := "(I[BI)V" } : Jvm.MethodName)) ∈ vGW := vGW_at 1476 (by decide +kernel) (by decide +kernel)
theorem vw_1478 : (Jvm.Cond.instanceMethod ({ cls := "HashTreeSignerModel", name := "rootOfForest", desc := "(I[BI)V" } : Jvm.MethodName)) ∈ vGW := vGW_at 1478 (by decide +kernel) (by decide +kernel)
theorem vs_55 : (Jvm.Cond.selects "HashTreeSignerModel" ({ cls := "HashTreeSignerModel", name := "rootOfForest", desc := "(I[BI)V" } : Jvm.MethodName) ({ cls := "HashTreeSignerModel", name := "rootOfForest", desc := "(I[BI)V" } : Jvm.MethodName)) ∈ vGW := vGW_sel 55 (by decide +kernel) (by decide +kernel)
set_option maxRecDepth 100000 in
theorem vw_1479 : (Jvm.Cond.code ({ cls := "HashTreeSignerModel", name := "rootOfForest", desc := "(I[BI)V" } : Jvm.MethodName) prog_14_method_59_code (7 : Nat) (Option.none : Option Jvm.ClassFile.FieldType)) ∈ vGW := vGW_at 1479 rfl rfl
theorem mX12_348 : vLV RX12 348 yX12_rootOfForest cX12_rootOfForest 7 none 3 9 := ⟨⟨_, rfl, rfl⟩, Or.inl vw_1476, vw_1478, vs_55, vw_15, vw_1479, ⟨by decide +kernel, by decide +kernel⟩, by decide +kernel⟩
theorem vw_1484 : (Jvm.Cond.methodLink "HashTreeSignerModel" (351 : Nat) ({ cls := "HashTreeSignerModel", name := "signTree", desc := "([BII[BI)V" } : Jvm.MethodName)) ∈ vGW := vGW_at 1484 (by decide +kernel) (by decide +kernel)
theorem vw_1486 : (Jvm.Cond.instanceMethod ({ cls := "HashTreeSignerModel", name := "signTree", desc := "([BII[BI)V" } : Jvm.MethodName)) ∈ vGW := vGW_at 1486 (by decide +kernel) (by decide +kernel)
theorem vs_57 : (Jvm.Cond.selects "HashTreeSignerModel" ({ cls := "HashTreeSignerModel", name := "signTree", desc := "([BII[BI)V" } : Jvm.MethodName) ({ cls := "HashTreeSignerModel", name := "signTree", desc := "([BII[BI)V" } : Jvm.MethodName)) ∈ vGW := vGW_sel 57 (by decide +kernel) (by decide +kernel)
set_option maxRecDepth 100000 in
theorem vw_1487 : (Jvm.Cond.code ({ cls := "HashTreeSignerModel", name := "signTree", desc := "([BII[BI)V" } : Jvm.MethodName) prog_14_method_53_code (7 : Nat) (Option.none : Option Jvm.ClassFile.FieldType)) ∈ vGW := vGW_at 1487 rfl rfl
theorem mX12_351 : vLV RX12 351 yX12_signTree cX12_signTree 7 none 5 9 := ⟨⟨_, rfl, rfl⟩, Or.inl vw_1484, vw_1486, vs_57, vw_15, vw_1487, ⟨by decide +kernel, by decide +kernel⟩, by decide +kernel⟩
theorem vw_1492 : (Jvm.Cond.methodLink "HashTreeSignerModel" (354 : Nat) ({ cls := "HashTreeSignerModel", name := "rootOf", desc := "(I[BI[BI)V" } : Jvm.MethodName)) ∈ vGW := vGW_at 1492 (by decide +kernel) (by decide +kernel)
theorem vw_1494 : (Jvm.Cond.instanceMethod ({ cls := "HashTreeSignerModel", name := "rootOf", desc := "(I[BI[BI)V" } : Jvm.MethodName)) ∈ vGW := vGW_at 1494 (by decide +kernel) (by decide +kernel)
theorem vs_59 : (Jvm.Cond.selects "HashTreeSignerModel" ({ cls := "HashTreeSignerModel", name := "rootOf", desc := "(I[BI[BI)V" } : Jvm.MethodName) ({ cls := "HashTreeSignerModel", name := "rootOf", desc := "(I[BI[BI)V" } : Jvm.MethodName)) ∈ vGW := vGW_sel 59 (by decide +kernel) (by decide +kernel)
set_option maxRecDepth 100000 in
theorem vw_1495 : (Jvm.Cond.code ({ cls := "HashTreeSignerModel", name := "rootOf", desc := "(I[BI[BI)V" } : Jvm.MethodName) prog_14_method_55_code (7 : Nat) (Option.none : Option Jvm.ClassFile.FieldType)) ∈ vGW := vGW_at 1495 rfl rfl
theorem mX12_354 : vLV RX12 354 yX12_rootOf cX12_rootOf 7 none 5 9 := ⟨⟨_, rfl, rfl⟩, Or.inl vw_1492, vw_1494, vs_59, vw_15, vw_1495, ⟨by decide +kernel, by decide +kernel⟩, by decide +kernel⟩
theorem vw_1500 : (Jvm.Cond.methodLink "HashTreeSignerModel" (358 : Nat) ({ cls := "HashTreeSignerModel", name := "alike", desc := "([BI[BII)Z" } : Jvm.MethodName)) ∈ vGW := vGW_at 1500 (by decide +kernel) (by decide +kernel)
theorem vw_1501 : (Jvm.Cond.static ({ cls := "HashTreeSignerModel", name := "alike", desc := "([BI[BII)Z" } : Jvm.MethodName)) ∈ vGW := vGW_at 1501 (by decide +kernel) (by decide +kernel)
set_option maxRecDepth 100000 in
theorem vw_1502 : (Jvm.Cond.code ({ cls := "HashTreeSignerModel", name := "alike", desc := "([BI[BII)Z" } : Jvm.MethodName) prog_14_method_15_code (7 : Nat) (Option.some Jvm.ClassFile.FieldType.boolean)) ∈ vGW := vGW_at 1502 rfl rfl
theorem mX12_358 : vLS RX12 358 yX12_alike cX12_alike 7 (some .boolean) 5 := ⟨Or.inl vw_1500, vw_1501, vw_15, vw_1502, ⟨by decide +kernel, by decide +kernel⟩, by decide +kernel⟩
theorem vw_459 : (Jvm.Cond.methodLink "java/util/Arrays" (13 : Nat) ({ cls := "java/util/Arrays", name := "rangeCheck", desc := "(III)V" } : Jvm.MethodName)) ∈ vGW := vGW_at 459 (by decide +kernel) (by decide +kernel)
theorem vw_460 : (Jvm.Cond.static ({ cls := "java/util/Arrays", name := "rangeCheck", desc := "(III)V" } : Jvm.MethodName)) ∈ vGW := vGW_at 460 (by decide +kernel) (by decide +kernel)
set_option maxRecDepth 100000 in
theorem vw_461 : (Jvm.Cond.code ({ cls := "java/util/Arrays", name := "rangeCheck", desc := "(III)V" } : Jvm.MethodName) prog_34_method_30_code (3 : Nat) (Option.none : Option Jvm.ClassFile.FieldType)) ∈ vGW := vGW_at 461 rfl rfl
theorem mJ7_13 : vLS RJ7 13 yJ7_rangeCheck_23922 cJ7_rangeCheck_23922 3 none 3 := ⟨Or.inl vw_459, vw_460, vw_10, vw_461, ⟨by decide +kernel, by decide +kernel⟩, by decide +kernel⟩
theorem vw_465 : (Jvm.Cond.methodLink "java/util/Arrays" (47 : Nat) ({ cls := "java/lang/StringBuilder", name := "<init>", desc := "()V" } : Jvm.MethodName)) ∈ vGW := vGW_at 465 (by decide +kernel) (by decide +kernel)
theorem vw_466 : (Jvm.Cond.instanceMethod ({ cls := "java/lang/StringBuilder", name := "<init>", desc := "()V" } : Jvm.MethodName)) ∈ vGW := vGW_at 466 (by decide +kernel) (by decide +kernel)
theorem vw_23 : (Jvm.Cond.initialized "java/lang/StringBuilder") ∈ vGW := vGW_at 23 (by decide +kernel) (by decide +kernel)
set_option maxRecDepth 100000 in
theorem vw_467 : (Jvm.Cond.code ({ cls := "java/lang/StringBuilder", name := "<init>", desc := "()V" } : Jvm.MethodName) prog_28_method_1_code (1 : Nat) (Option.none : Option Jvm.ClassFile.FieldType)) ∈ vGW := vGW_at 467 rfl rfl
theorem mJ7_47 : vLI RJ7 47 yJ4_init_da8c8 cJ4_init_da8c8 1 0 := ⟨Or.inl vw_465, vw_466, vw_23, vw_467, rfl, ⟨by decide +kernel, by decide +kernel⟩, by decide +kernel⟩
theorem vw_704 : (Jvm.Cond.methodLink "java/util/Arrays" (70 : Nat) ({ cls := "java/lang/ArrayIndexOutOfBoundsException", name := "<init>", desc := "(I)V" } : Jvm.MethodName)) ∈ vGW := vGW_at 704 (by decide +kernel) (by decide +kernel)
theorem vw_705 : (Jvm.Cond.instanceMethod ({ cls := "java/lang/ArrayIndexOutOfBoundsException", name := "<init>", desc := "(I)V" } : Jvm.MethodName)) ∈ vGW := vGW_at 705 (by decide +kernel) (by decide +kernel)
theorem vw_31 : (Jvm.Cond.initialized "java/lang/ArrayIndexOutOfBoundsException") ∈ vGW := vGW_at 31 (by decide +kernel) (by decide +kernel)
set_option maxRecDepth 100000 in
theorem vw_706 : (Jvm.Cond.code ({ cls := "java/lang/ArrayIndexOutOfBoundsException", name := "<init>", desc := "(I)V" } : Jvm.MethodName) prog_16_method_3_code (2 : Nat) (Option.none : Option Jvm.ClassFile.FieldType)) ∈ vGW := vGW_at 706 rfl rfl
theorem mJ7_70 : vLI RJ7 70 yJx00060_init_d00df cJx00060_init_d00df 2 1 := ⟨Or.inl vw_704, vw_705, vw_31, vw_706, rfl, ⟨by decide +kernel, by decide +kernel⟩, by decide +kernel⟩
theorem vw_535 : (Jvm.Cond.methodLink "java/util/Arrays" (304 : Nat) ({ cls := "java/lang/Math", name := "min", desc := "(II)I" } : Jvm.MethodName)) ∈ vGW := vGW_at 535 (by decide +kernel) (by decide +kernel)
theorem mJ7_304 : vLS RJ7 304 yJ9_min_7cf53 cJ9_min_7cf53 2 (some .int) 2 := ⟨Or.inl vw_535, vw_536, vw_27, vw_537, ⟨by decide +kernel, by decide +kernel⟩, by decide +kernel⟩
theorem vw_670 : (Jvm.Cond.methodLink "java/util/Arrays" (339 : Nat) ({ cls := "java/util/Arrays", name := "copyOfRangeByte", desc := "([BII)[B" } : Jvm.MethodName)) ∈ vGW := vGW_at 670 (by decide +kernel) (by decide +kernel)
theorem vw_671 : (Jvm.Cond.static ({ cls := "java/util/Arrays", name := "copyOfRangeByte", desc := "([BII)[B" } : Jvm.MethodName)) ∈ vGW := vGW_at 671 (by decide +kernel) (by decide +kernel)
set_option maxRecDepth 100000 in
theorem vw_672 : (Jvm.Cond.code ({ cls := "java/util/Arrays", name := "copyOfRangeByte", desc := "([BII)[B" } : Jvm.MethodName) prog_34_method_133_code (5 : Nat) (Option.some (Jvm.ClassFile.FieldType.array Jvm.ClassFile.FieldType.byte))) ∈ vGW := vGW_at 672 rfl rfl
theorem mJ7_339 : vLS RJ7 339 yJ7_copyOfRangeByte_39247 cJ7_copyOfRangeByte_39247 5 (some (.array .byte)) 3 := ⟨Or.inl vw_670, vw_671, vw_10, vw_672, ⟨by decide +kernel, by decide +kernel⟩, by decide +kernel⟩
theorem vw_673 : (Jvm.Cond.methodLink "java/util/Arrays" (343 : Nat) ({ cls := "java/util/Arrays", name := "checkLength", desc := "(II)V" } : Jvm.MethodName)) ∈ vGW := vGW_at 673 (by decide +kernel) (by decide +kernel)
theorem vw_674 : (Jvm.Cond.static ({ cls := "java/util/Arrays", name := "checkLength", desc := "(II)V" } : Jvm.MethodName)) ∈ vGW := vGW_at 674 (by decide +kernel) (by decide +kernel)
set_option maxRecDepth 100000 in
theorem vw_675 : (Jvm.Cond.code ({ cls := "java/util/Arrays", name := "checkLength", desc := "(II)V" } : Jvm.MethodName) prog_34_method_131_code (2 : Nat) (Option.none : Option Jvm.ClassFile.FieldType)) ∈ vGW := vGW_at 675 rfl rfl
theorem mJ7_343 : vLS RJ7 343 yJ7_checkLength_df160 cJ7_checkLength_df160 2 none 2 := ⟨Or.inl vw_673, vw_674, vw_10, vw_675, ⟨by decide +kernel, by decide +kernel⟩, by decide +kernel⟩
theorem vw_43 : (Jvm.Cond.constant "HashTreeSigner" (9 : Nat) (65536 : Int32)) ∈ vGW := vGW_at 43 (by decide +kernel) (by decide +kernel)
theorem vw_46 : (Jvm.Cond.constant "HashTreeSigner" (27 : Nat) (65793 : Int32)) ∈ vGW := vGW_at 46 (by decide +kernel) (by decide +kernel)
theorem vw_329 : (Jvm.Cond.constant "HashTreeSigner" (52 : Nat) (65516 : Int32)) ∈ vGW := vGW_at 329 (by decide +kernel) (by decide +kernel)
theorem vw_480 : (Jvm.Cond.constant "java/lang/StringUTF16" (20 : Nat) (1073741823 : Int32)) ∈ vGW := vGW_at 480 (by decide +kernel) (by decide +kernel)
theorem vw_520 : (Jvm.Cond.constant "jdk/internal/util/ArraysSupport" (200 : Nat) (2147483639 : Int32)) ∈ vGW := vGW_at 520 (by decide +kernel) (by decide +kernel)
theorem vw_524 : (Jvm.Cond.constant "java/lang/AbstractStringBuilder" (39 : Nat) (2147483647 : Int32)) ∈ vGW := vGW_at 524 (by decide +kernel) (by decide +kernel)
theorem vw_850 : (Jvm.Cond.constantLong "HashTreeSigner$Sha512" (26 : Nat) (-1 : Int64)) ∈ vGW := vGW_at 850 (by decide +kernel) (by decide +kernel)
theorem vw_905 : (Jvm.Cond.constantLong "HashTreeSigner$Sha2" (51 : Nat) (8 : Int64)) ∈ vGW := vGW_at 905 (by decide +kernel) (by decide +kernel)
theorem vw_920 : (Jvm.Cond.constantLong "HashTreeSigner$Sponge" (25 : Nat) (255 : Int64)) ∈ vGW := vGW_at 920 (by decide +kernel) (by decide +kernel)
theorem vw_928 : (Jvm.Cond.constantLong "HashTreeSigner$Sponge" (40 : Nat) (-1 : Int64)) ∈ vGW := vGW_at 928 (by decide +kernel) (by decide +kernel)
theorem vw_935 : (Jvm.Cond.constantLong "HashTreeSigner$Sponge" (30 : Nat) (31 : Int64)) ∈ vGW := vGW_at 935 (by decide +kernel) (by decide +kernel)
theorem vw_936 : (Jvm.Cond.constantLong "HashTreeSigner$Sponge" (32 : Nat) (-9223372036854775808 : Int64)) ∈ vGW := vGW_at 936 (by decide +kernel) (by decide +kernel)
theorem vw_1033 : (Jvm.Cond.constantLong "HashTreeSigner$Trees" (89 : Nat) (-1 : Int64)) ∈ vGW := vGW_at 1033 (by decide +kernel) (by decide +kernel)
theorem vw_1097 : (Jvm.Cond.constant "HashTreeSignerModel" (9 : Nat) (65536 : Int32)) ∈ vGW := vGW_at 1097 (by decide +kernel) (by decide +kernel)
theorem vw_1114 : (Jvm.Cond.constantLong "HashTreeSignerModel" (144 : Nat) (65535 : Int64)) ∈ vGW := vGW_at 1114 (by decide +kernel) (by decide +kernel)
theorem vw_1132 : (Jvm.Cond.constantLong "HashTreeSignerModel" (196 : Nat) (4294967295 : Int64)) ∈ vGW := vGW_at 1132 (by decide +kernel) (by decide +kernel)
theorem vw_1133 : (Jvm.Cond.constantLong "HashTreeSignerModel" (169 : Nat) (-6510615555426900571 : Int64)) ∈ vGW := vGW_at 1133 (by decide +kernel) (by decide +kernel)
theorem vw_1146 : (Jvm.Cond.constantLong "HashTreeSignerModel" (142 : Nat) (255 : Int64)) ∈ vGW := vGW_at 1146 (by decide +kernel) (by decide +kernel)
theorem vw_1154 : (Jvm.Cond.constantLong "HashTreeSignerModel" (219 : Nat) (-1 : Int64)) ∈ vGW := vGW_at 1154 (by decide +kernel) (by decide +kernel)
theorem vw_1173 : (Jvm.Cond.constantLong "HashTreeSignerModel" (227 : Nat) (8 : Int64)) ∈ vGW := vGW_at 1173 (by decide +kernel) (by decide +kernel)
end
section
/-! NAMED CELLS: the cells at ad 0 .. ad (N - 1) hold σ 0 .. σ (N - 1); a picture of the heap by names -/
abbrev nS : Type := Nat → va_E
def nW (ad : Nat → Nat) (N : Nat) (σ : nS) : vW := fun a => ((List.range N).find? (fun k => ad k == a)).map σ
def nI1 (ad : Nat → Nat) (N : Nat) : Prop := ∀ i j, i < N → j < N → ad i = ad j → i = j
theorem nW_find {ad : Nat → Nat} {N : Nat} (I : nI1 ad N) {k : Nat} (hk : k < N) : (List.range N).find? (fun j => ad j == ad k) = some k := by
  cases h : (List.range N).find? (fun j => ad j == ad k) with
  | none =>
    have := List.find?_eq_none.mp h k (List.mem_range.mpr hk)
    simp at this
  | some j =>
    have h1 := List.find?_some h
    have h2 := List.mem_range.mp (List.mem_of_find?_eq_some h)
    have h3 : ad j = ad k := by simpa using h1
    rw [I j k h2 hk h3]
theorem nW_at {ad : Nat → Nat} {N : Nat} {σ : nS} (I : nI1 ad N) {k : Nat} (hk : k < N) : nW ad N σ (ad k) = some (σ k) := by
  unfold nW
  rw [nW_find I hk]
  rfl
theorem nW_up {ad : Nat → Nat} {N : Nat} {σ : nS} (I : nI1 ad N) {k : Nat} (hk : k < N) (e : va_E) : vUp (nW ad N σ) (ad k) e = nW ad N (va_up σ k e) := by
  funext a
  by_cases h : a = ad k
  · subst h
    rw [vUp_self, nW_at I hk]
    simp [va_up]
  · rw [vUp_ne h]
    unfold nW
    cases hf : (List.range N).find? (fun j => ad j == a) with
    | none => rfl
    | some j =>
      have h1 := List.find?_some hf
      have h3 : ad j = a := by simpa using h1
      have : j ≠ k := fun q => h (by rw [← h3, q])
      simp [va_up, this]
/-- chains of changes by names -/
theorem nUp1 {σ τ : nS} {a : Nat} {x : va_E} (h : ∀ k, k ≠ a → τ k = σ k) (ha : τ a = x) : τ = va_up σ a x := by
  funext k
  by_cases q : k = a
  · subst q; simp [va_up, ha]
  · simp [va_up, q, h k q]
theorem nUp2 {σ τ : nS} {a b : Nat} {x y : va_E} (h : ∀ k, k ≠ a → k ≠ b → τ k = σ k) (ha : τ a = x) (hb : τ b = y) : τ = va_up (va_up σ a x) b y :=
  nUp1 (fun k q => by
    by_cases p : k = a
    · subst p; simp [va_up, ha]
    · simp [va_up, p, h k p q]) hb
theorem nUp3 {σ τ : nS} {a b c : Nat} {x y z : va_E} (h : ∀ k, k ≠ a → k ≠ b → k ≠ c → τ k = σ k) (ha : τ a = x) (hb : τ b = y) (hc : τ c = z) : τ = va_up (va_up (va_up σ a x) b y) c z :=
  nUp1 (fun k q => by
    by_cases p : k = a
    · subst p
      by_cases r : k = b
      · subst r; simp [va_up, hb]
      · simp [va_up, r, ha]
    · by_cases r : k = b
      · subst r; simp [va_up, hb]
      · simp [va_up, p, r, h k p r q]) hc
section NRows
variable {G : vG} {B : Nat} {p : Program} {l : Launch} {e : Env} {R : Room} {s : State} {m : MethodId} {args : Array Value} {below : List Frame} {meth : Method} {c : Code} {nL cells slots : Nat} {Q : State → Prop} {cc : ByteArray} {ret : Option FieldType} {own : String} {pc pc' : Nat} {lv : List (Nat × Value)} {st : List Value} {ad : Nat → Nat} {N : Nat} {σ : nS}
theorem n_bald (C : vC G B p m meth c cc nL ret s args own) (I : nI1 ad N) {k n : Nat} {f : Nat → Int32} {i : Int32} (hd : vD cc pc .baload 1 pc') (hk : k < N) (hs : σ k = eB G n f) (j : Nat) (hi : i = nI j) (hj : j < n) (hn : n < 2 ^ 31) (kk : V G B p l e R s m args below meth c nL cells slots Q (nW ad N σ) pc' lv (.int (f j) :: st)) : V G B p l e R s m args below meth c nL cells slots Q (nW ad N σ) pc lv (.int i :: .ref (ad k) :: st) :=
  v_bald C hd ((nW_at I hk).trans (congrArg some hs)) j hi hj hn kk
theorem n_iald (C : vC G B p m meth c cc nL ret s args own) (I : nI1 ad N) {k n : Nat} {f : Nat → Int32} {i : Int32} (hd : vD cc pc .iaload 1 pc') (hk : k < N) (hs : σ k = eI G n f) (j : Nat) (hi : i = nI j) (hj : j < n) (hn : n < 2 ^ 31) (kk : V G B p l e R s m args below meth c nL cells slots Q (nW ad N σ) pc' lv (.int (f j) :: st)) : V G B p l e R s m args below meth c nL cells slots Q (nW ad N σ) pc lv (.int i :: .ref (ad k) :: st) :=
  v_iald C hd ((nW_at I hk).trans (congrArg some hs)) j hi hj hn kk
theorem n_lald (C : vC G B p m meth c cc nL ret s args own) (I : nI1 ad N) {k n : Nat} {f : Nat → Int64} {i : Int32} (hd : vD cc pc .laload 1 pc') (hk : k < N) (hs : σ k = eJ G n f) (j : Nat) (hi : i = nI j) (hj : j < n) (hn : n < 2 ^ 31) (kk : V G B p l e R s m args below meth c nL cells slots Q (nW ad N σ) pc' lv (.long (f j) :: st)) : V G B p l e R s m args below meth c nL cells slots Q (nW ad N σ) pc lv (.int i :: .ref (ad k) :: st) :=
  v_lald C hd ((nW_at I hk).trans (congrArg some hs)) j hi hj hn kk
theorem n_bast (C : vC G B p m meth c cc nL ret s args own) (I : nI1 ad N) {k n : Nat} {f : Nat → Int32} {i x : Int32} (hd : vD cc pc .bastore 1 pc') (hk : k < N) (hs : σ k = eB G n f) (j : Nat) (hi : i = nI j) (hj : j < n) (hn : n < 2 ^ 31) (kk : V G B p l e R s m args below meth c nL cells slots Q (nW ad N (va_up σ k (eB G n (upd f j (vp_nar .byte x))))) pc' lv st) : V G B p l e R s m args below meth c nL cells slots Q (nW ad N σ) pc lv (.int x :: .int i :: .ref (ad k) :: st) :=
  v_bast C hd ((nW_at I hk).trans (congrArg some hs)) j hi hj hn (by rw [nW_up I hk]; exact kk)
theorem n_iast (C : vC G B p m meth c cc nL ret s args own) (I : nI1 ad N) {k n : Nat} {f : Nat → Int32} {i x : Int32} (hd : vD cc pc .iastore 1 pc') (hk : k < N) (hs : σ k = eI G n f) (j : Nat) (hi : i = nI j) (hj : j < n) (hn : n < 2 ^ 31) (kk : V G B p l e R s m args below meth c nL cells slots Q (nW ad N (va_up σ k (eI G n (upd f j x)))) pc' lv st) : V G B p l e R s m args below meth c nL cells slots Q (nW ad N σ) pc lv (.int x :: .int i :: .ref (ad k) :: st) :=
  v_iast C hd ((nW_at I hk).trans (congrArg some hs)) j hi hj hn (by rw [nW_up I hk]; exact kk)
theorem n_last (C : vC G B p m meth c cc nL ret s args own) (I : nI1 ad N) {k n : Nat} {f : Nat → Int64} {i : Int32} {x : Int64} (hd : vD cc pc .lastore 1 pc') (hk : k < N) (hs : σ k = eJ G n f) (j : Nat) (hi : i = nI j) (hj : j < n) (hn : n < 2 ^ 31) (kk : V G B p l e R s m args below meth c nL cells slots Q (nW ad N (va_up σ k (eJ G n (vp_updL f j x)))) pc' lv st) : V G B p l e R s m args below meth c nL cells slots Q (nW ad N σ) pc lv (.long x :: .int i :: .ref (ad k) :: st) :=
  v_last C hd ((nW_at I hk).trans (congrArg some hs)) j hi hj hn (by rw [nW_up I hk]; exact kk)
theorem n_get (C : vC G B p m meth c cc nL ret s args own) (I : nI1 ad N) {k ci index k0 : Nat} {fs : List Value} {v : Value} (hf : vFld own index ci k0) (hd : vD cc pc (.getfield index) 3 pc') (hk : k < N) (hs : σ k = eO ci fs) (hv : fs[k0]? = some v) (kk : V G B p l e R s m args below meth c nL cells slots Q (nW ad N σ) pc' lv (v :: st)) : V G B p l e R s m args below meth c nL cells slots Q (nW ad N σ) pc lv (.ref (ad k) :: st) :=
  v_get C hf hd ((nW_at I hk).trans (congrArg some hs)) hv kk
theorem n_put (C : vC G B p m meth c cc nL ret s args own) (I : nI1 ad N) {k ci index k0 : Nat} {fs fs' : List Value} {v : Value} {ty : FieldType} (hf : vFldP own index ci k0 ty) (hd : vD cc pc (.putfield index) 3 pc') (hk : k < N) (hs : σ k = eO ci fs) (hn : narrow ty v = v) (hfit : fits ty v = true) (hl : k0 < fs.length) (he : fs.set k0 v = fs') (kk : V G B p l e R s m args below meth c nL cells slots Q (nW ad N (va_up σ k (eO ci fs'))) pc' lv st) : V G B p l e R s m args below meth c nL cells slots Q (nW ad N σ) pc lv (v :: .ref (ad k) :: st) :=
  v_put C hf hd ((nW_at I hk).trans (congrArg some hs)) hn hfit hl (by rw [nW_up I hk, he]; exact kk)
end NRows
/-- a contract by names -/
def nOk (G : vG) (B : Nat) (l : Launch) (ad : Nat → Nat) (N : Nat) (y : MethodName) (bytes : ByteArray) (maxL : Nat) (ret : Option FieldType) (d mc ms : Nat) (av : List Value) (σ : nS) (post : Option Value → nS → Prop) : Prop :=
  vOk G B l y bytes maxL ret d mc ms av (nW ad N σ) (fun r w' => ∃ σ' : nS, w' = nW ad N σ' ∧ post r σ')
section NCalls
variable {G : vG} {B : Nat} {p : Program} {l : Launch} {e : Env} {R : Room} {s : State} {m : MethodId} {args : Array Value} {below : List Frame} {meth : Method} {c : Code} {nL cells slots : Nat} {Q : State → Prop} {cc : ByteArray} {ret : Option FieldType} {own : String} {pc pc' : Nat} {lv : List (Nat × Value)} {st : List Value} {ad : Nat → Nat} {N : Nat} {σ : nS}
variable {index n maxL d mc ms d1 mc1 ms1 : Nat} {y : MethodName} {bytes : ByteArray} {rt : Option FieldType}
theorem n_callS (C : vC G B p m meth c cc nL ret s args own) {av rest : List Value} {post : Option Value → nS → Prop} (hm : vLS own index y bytes maxL rt n) (hok : nOk G B l ad N y bytes maxL rt d mc ms av σ post) (hR : R = vRm d1 mc1 ms1) (hdd : d + 1 ≤ d1) (hml : maxL ≤ 60) (hrm : cells + mc ≤ mc1 ∧ slots + ms ≤ ms1) (hn : av.length = n) (hst : st = av.reverse ++ rest) (hroom : (rest.map fun v => v.category).sum ≤ 8) (hd : vD cc pc (.invokestatic index) 3 pc')
    (k : ∀ (r : Option Value) (σ' : nS), post r σ' → V G B p l e R s m args below meth c nL (cells + mc) (slots + ms) Q (nW ad N σ') pc' lv (r.toList ++ rest)) : V G B p l e R s m args below meth c nL cells slots Q (nW ad N σ) pc lv st :=
  v_callS C hm hok hR hdd hml hrm hn hst hroom hd (fun r w' h => by obtain ⟨σ', rfl, hp⟩ := h; exact k r σ' hp)
theorem n_callV (C : vC G B p m meth c cc nL ret s args own) (I : nI1 ad N) {As rest fs : List Value} {b ci : Nat} {post : Option Value → nS → Prop} (hm : vLV own index y bytes maxL rt n ci) (hok : nOk G B l ad N y bytes maxL rt d mc ms (.ref (ad b) :: As) σ post) (hb : b < N) (hs : σ b = eO ci fs) (hR : R = vRm d1 mc1 ms1) (hdd : d + 1 ≤ d1) (hml : maxL ≤ 60) (hrm : cells + mc ≤ mc1 ∧ slots + ms ≤ ms1) (hn : As.length = n) (hst : st = As.reverse ++ .ref (ad b) :: rest) (hroom : (rest.map fun v => v.category).sum ≤ 8) (hd : vD cc pc (.invokevirtual index) 3 pc')
    (k : ∀ (r : Option Value) (σ' : nS), post r σ' → V G B p l e R s m args below meth c nL (cells + mc) (slots + ms) Q (nW ad N σ') pc' lv (r.toList ++ rest)) : V G B p l e R s m args below meth c nL cells slots Q (nW ad N σ) pc lv st :=
  v_callV C hm hok ((nW_at I hb).trans (congrArg some hs)) hR hdd hml hrm hn hst hroom hd (fun r w' h => by obtain ⟨σ', rfl, hp⟩ := h; exact k r σ' hp)
theorem n_callU (C : vC G B p m meth c cc nL ret s args own) (I : nI1 ad N) {x : MethodName} {As rest fs : List Value} {b ci : Nat} {post : Option Value → nS → Prop} (hm : vLU own index x y bytes maxL rt n ci) (hok : nOk G B l ad N y bytes maxL rt d mc ms (.ref (ad b) :: As) σ post) (hb : b < N) (hs : σ b = eO ci fs) (hR : R = vRm d1 mc1 ms1) (hdd : d + 1 ≤ d1) (hml : maxL ≤ 60) (hrm : cells + mc ≤ mc1 ∧ slots + ms ≤ ms1) (hn : As.length = n) (hst : st = As.reverse ++ .ref (ad b) :: rest) (hroom : (rest.map fun v => v.category).sum ≤ 8) (hd : vD cc pc (.invokevirtual index) 3 pc')
    (k : ∀ (r : Option Value) (σ' : nS), post r σ' → V G B p l e R s m args below meth c nL (cells + mc) (slots + ms) Q (nW ad N σ') pc' lv (r.toList ++ rest)) : V G B p l e R s m args below meth c nL cells slots Q (nW ad N σ) pc lv st :=
  v_callU C hm hok ((nW_at I hb).trans (congrArg some hs)) hR hdd hml hrm hn hst hroom hd (fun r w' h => by obtain ⟨σ', rfl, hp⟩ := h; exact k r σ' hp)
theorem n_iret (C : vC G B p m meth c cc nL ret s args own) (hret : ret = some .int) {v : Int32} {post : Option Value → nS → Prop} (hd : vD cc pc .ireturn 1 pc') (hp : post (some (.int v)) σ) : V G B p l e R s m args below meth c nL cells slots (MQ below (vQ G B (fun r w' => ∃ σ' : nS, w' = nW ad N σ' ∧ post r σ')) args s cells slots (fun q => B ≤ q)) (nW ad N σ) pc lv [.int v] := v_iret C hret hd ⟨σ, rfl, hp⟩
theorem n_lret (C : vC G B p m meth c cc nL ret s args own) (hret : ret = some .long) {v : Int64} {post : Option Value → nS → Prop} (hd : vD cc pc .lreturn 1 pc') (hp : post (some (.long v)) σ) : V G B p l e R s m args below meth c nL cells slots (MQ below (vQ G B (fun r w' => ∃ σ' : nS, w' = nW ad N σ' ∧ post r σ')) args s cells slots (fun q => B ≤ q)) (nW ad N σ) pc lv [.long v] := v_lret C hret hd ⟨σ, rfl, hp⟩
theorem n_zret (C : vC G B p m meth c cc nL ret s args own) {ty : FieldType} (hret : ret = some ty) {v : Int32} {post : Option Value → nS → Prop} (hn : narrow ty (.int v) = .int v) (hd : vD cc pc .ireturn 1 pc') (hp : post (some (.int v)) σ) : V G B p l e R s m args below meth c nL cells slots (MQ below (vQ G B (fun r w' => ∃ σ' : nS, w' = nW ad N σ' ∧ post r σ')) args s cells slots (fun q => B ≤ q)) (nW ad N σ) pc lv [.int v] := v_zret C hret hn hd ⟨σ, rfl, hp⟩
theorem n_vret (C : vC G B p m meth c cc nL ret s args own) (hret : ret = none) {post : Option Value → nS → Prop} (hd : vD cc pc .return_ 1 pc') (hp : post none σ) : V G B p l e R s m args below meth c nL cells slots (MQ below (vQ G B (fun r w' => ∃ σ' : nS, w' = nW ad N σ' ∧ post r σ')) args s cells slots (fun q => B ≤ q)) (nW ad N σ) pc lv [] := v_vret C hret hd ⟨σ, rfl, hp⟩
theorem nOk.weak {av : List Value} {post post' : Option Value → nS → Prop} (h : nOk G B l ad N y bytes maxL rt d mc ms av σ post) (hp : ∀ r σ', post r σ' → post' r σ') : nOk G B l ad N y bytes maxL rt d mc ms av σ post' := by
  intro p e h1 h2 h3 s m args below h4 h5 h6 h7
  obtain ⟨n, o, a1, a2, a3, ⟨⟨r, w', b1, ⟨σ', b2, b3⟩, b4⟩, b5⟩, a5⟩ := h p e h1 h2 h3 s m args below h4 h5 h6 h7
  exact ⟨n, o, a1, a2, a3, ⟨⟨r, w', b1, ⟨σ', b2, hp r σ' b3⟩, b4⟩, b5⟩, a5⟩
end NCalls
end
section
/-! naturals behind ints; loops; functions by turns -/
theorem ix_add {x y : Int32} {a b : Nat} (hx : x = nI a) (hy : y = nI b) : x + y = nI (a + b) := by subst hx; subst hy; exact nI_add a b
theorem ix_inc (a : Nat) : nI a + Int32.ofInt 1 = nI (a + 1) := nI_1 a
theorem ix_mul {x y : Int32} {a b : Nat} (hx : x = nI a) (hy : y = nI b) : x * y = nI (a * b) := by subst hx; subst hy; exact pk_mul a b
theorem ix_sub {x y : Int32} {a b : Nat} (hx : x = nI a) (hy : y = nI b) (h : b ≤ a) : x - y = nI (a - b) := by subst hx; subst hy; exact pk_sub h
theorem ix_div {x y : Int32} {a d : Nat} (hx : x = nI a) (hy : y = nI d) (ha : a < 2 ^ 31) (h0 : 0 < d) (hd : d < 2 ^ 31) : x / y = nI (a / d) := by subst hx; subst hy; exact pk_div ha h0 hd
theorem ix_rem {x y : Int32} {a d : Nat} (hx : x = nI a) (hy : y = nI d) (ha : a < 2 ^ 31) (h0 : 0 < d) (hd : d < 2 ^ 31) : x - x / y * y = nI (a % d) := by subst hx; subst hy; exact pk_rem ha h0 hd
theorem ix_shr {x y : Int32} {a : Nat} (hx : x = nI a) (k : Nat) (hk : ((y &&& 31).toBitVec.smod 32).toNat = k) (ha : a < 2 ^ 31) : x >>> (y &&& 31) = nI (a / 2 ^ k) := by subst hx; exact pk_shrN ha _ k hk
theorem ix_shl {x y : Int32} {a : Nat} (hx : x = nI a) (k : Nat) (hk : ((y &&& 31).toBitVec.smod 32).toNat = k) (ha : a * 2 ^ k < 2 ^ 32) : x <<< (y &&& 31) = nI (a * 2 ^ k) := by subst hx; exact pk_shlN _ k hk ha
theorem ix_lt {x y : Int32} {a b : Nat} (hx : x = nI a) (hy : y = nI b) (h : a < b) (_ha : a < 2 ^ 31) (hb : b < 2 ^ 31) : x < y := by subst hx; subst hy; exact nI_lt h hb
theorem ix_nlt {x y : Int32} {a b : Nat} (hx : x = nI a) (hy : y = nI b) (h : b ≤ a) (ha : a < 2 ^ 31) (_hb : b < 2 ^ 31) : ¬ x < y := by subst hx; subst hy; exact nI_nlt h ha
theorem ix_le {x y : Int32} {a b : Nat} (hx : x = nI a) (hy : y = nI b) (h : a ≤ b) (_ha : a < 2 ^ 31) (hb : b < 2 ^ 31) : x ≤ y := by subst hx; subst hy; exact nI_le h hb
theorem ix_nle {x y : Int32} {a b : Nat} (hx : x = nI a) (hy : y = nI b) (h : b < a) (ha : a < 2 ^ 31) (_hb : b < 2 ^ 31) : ¬ x ≤ y := by subst hx; subst hy; exact nI_ge h ha
theorem ix_eq {x y : Int32} {a b : Nat} (hx : x = nI a) (hy : y = nI b) (h : a = b) (_ha : a < 2 ^ 31) (_hb : b < 2 ^ 31) : x = y := by subst hx; subst hy; rw [h]
theorem ix_ne {x y : Int32} {a b : Nat} (hx : x = nI a) (hy : y = nI b) (h : a ≠ b) (ha : a < 2 ^ 31) (hb : b < 2 ^ 31) : ¬ x = y := by subst hx; subst hy; exact fun q => h ((nI_eq ha hb).mp q)
theorem n_id {σ : nS} {k : Nat} {e : va_E} (h : σ k = e) : va_up σ k e = σ := by
  funext q
  by_cases g : q = k
  · subst g; simp [va_up, h]
  · simp [va_up, g]
/-- two pictures: alike at ks, alike elsewhere -/
def n_all (τ τ' : nS) : List Nat → Prop
  | [] => True
  | k :: r => τ k = τ' k ∧ n_all τ τ' r
theorem n_all_mem {τ τ' : nS} : ∀ (ks : List Nat), n_all τ τ' ks → ∀ k ∈ ks, τ k = τ' k
  | [], _, _, h => by cases h
  | a :: r, h, k, hk => by
    rcases List.mem_cons.mp hk with q | q
    · subst q; exact h.1
    · exact n_all_mem r h.2 k q
theorem n_extL {τ τ' : nS} (ks : List Nat) (h : n_all τ τ' ks) (h' : ∀ q, q ∉ ks → τ q = τ' q) : τ = τ' := by
  funext q
  by_cases g : q ∈ ks
  · exact n_all_mem ks h q g
  · exact h' q g
/-- a loop that counts up -/
theorem v_for {P : Nat → Prop} (n : Nat) (hend : P n) (hstep : ∀ i, i < n → P (i + 1) → P i) : P 0 := by
  have key : ∀ k, k ≤ n → P (n - k) := by
    intro k
    induction k with
    | zero => intro _; exact hend
    | succ k ih =>
      intro h
      have h1 := ih (by omega)
      refine hstep (n - (k + 1)) (by omega) ?_
      rw [show n - (k + 1) + 1 = n - k by omega]
      exact h1
  have := key n (Nat.le_refl n)
  rwa [Nat.sub_self] at this
theorem v_forF {P : Nat → Prop} (m n : Nat) (hmn : m ≤ n) (hend : P n) (hstep : ∀ i, m ≤ i → i < n → P (i + 1) → P i) : P m := by
  have := v_for (P := fun i => P (m + i)) (n - m) (by rw [show m + (n - m) = n by omega]; exact hend) (fun i hi h => hstep (m + i) (by omega) (by omega) h)
  simpa using this
section VFor
variable {G : vG} {B : Nat} {p : Program} {l : Launch} {e : Env} {R : Room} {s : State} {m : MethodId} {args : Array Value} {below : List Frame} {meth : Method} {c : Code} {nL cells slots : Nat} {Q : State → Prop} {ad : Nat → Nat} {N : Nat} {hd : Nat} {st : List Value}
theorem v_forV (τ : Nat → nS) (L : Nat → List (Nat × Value)) (n : Nat) (hend : V G B p l e R s m args below meth c nL cells slots Q (nW ad N (τ n)) hd (L n) st) (hstep : ∀ i, i < n → V G B p l e R s m args below meth c nL cells slots Q (nW ad N (τ (i + 1))) hd (L (i + 1)) st → V G B p l e R s m args below meth c nL cells slots Q (nW ad N (τ i)) hd (L i) st) : V G B p l e R s m args below meth c nL cells slots Q (nW ad N (τ 0)) hd (L 0) st :=
  v_for (P := fun i => V G B p l e R s m args below meth c nL cells slots Q (nW ad N (τ i)) hd (L i) st) n hend hstep
theorem v_forM (τ : Nat → nS) (L : Nat → List (Nat × Value)) (m0 n : Nat) (hmn : m0 ≤ n) (hend : V G B p l e R s m args below meth c nL cells slots Q (nW ad N (τ n)) hd (L n) st) (hstep : ∀ i, m0 ≤ i → i < n → V G B p l e R s m args below meth c nL cells slots Q (nW ad N (τ (i + 1))) hd (L (i + 1)) st → V G B p l e R s m args below meth c nL cells slots Q (nW ad N (τ i)) hd (L i) st) : V G B p l e R s m args below meth c nL cells slots Q (nW ad N (τ m0)) hd (L m0) st :=
  v_forF (P := fun i => V G B p l e R s m args below meth c nL cells slots Q (nW ad N (τ i)) hd (L i) st) m0 n hmn hend hstep
end VFor
/-- n turns of f, the first with 0 -/
def itN {α : Type} (f : Nat → α → α) : Nat → α → α
  | 0, s => s
  | n + 1, s => f n (itN f n s)
end
section
theorem eX12_sponge_0 : vD cX12_sponge 0 (.aload_n 0) 1 1 := ⟨by decide +kernel, rfl⟩
theorem eX12_sponge_1 : vD cX12_sponge 1 (.getfield 177) 3 4 := ⟨by decide +kernel, rfl⟩
theorem eX12_sponge_4 : vD cX12_sponge 4 (.bipush 6) 2 6 := ⟨by decide +kernel, rfl⟩
theorem eX12_sponge_6 : vD cX12_sponge 6 (.if_icmp .le 7) 3 9 := ⟨by decide +kernel, rfl⟩
theorem eX12_sponge_9 : vD cX12_sponge 9 (.iconst 1) 1 10 := ⟨by decide +kernel, rfl⟩
theorem eX12_sponge_10 : vD cX12_sponge 10 (.goto 4) 3 13 := ⟨by decide +kernel, rfl⟩
theorem eX12_sponge_13 : vD cX12_sponge 13 (.iconst 0) 1 14 := ⟨by decide +kernel, rfl⟩
theorem eX12_sponge_14 : vD cX12_sponge 14 .ireturn 1 15 := ⟨by decide +kernel, rfl⟩
theorem eX12_flip_0 : vD cX12_flip 0 (.aload_n 0) 1 1 := ⟨by decide +kernel, rfl⟩
theorem eX12_flip_1 : vD cX12_flip 1 (.getfield 48) 3 4 := ⟨by decide +kernel, rfl⟩
theorem eX12_flip_4 : vD cX12_flip 4 (.iload_n 1) 1 5 := ⟨by decide +kernel, rfl⟩
theorem eX12_flip_5 : vD cX12_flip 5 (.bipush 8) 2 7 := ⟨by decide +kernel, rfl⟩
theorem eX12_flip_7 : vD cX12_flip 7 .idiv 1 8 := ⟨by decide +kernel, rfl⟩
theorem eX12_flip_8 : vD cX12_flip 8 .dup2 1 9 := ⟨by decide +kernel, rfl⟩
theorem eX12_flip_9 : vD cX12_flip 9 .laload 1 10 := ⟨by decide +kernel, rfl⟩
theorem eX12_flip_10 : vD cX12_flip 10 (.iload_n 2) 1 11 := ⟨by decide +kernel, rfl⟩
theorem eX12_flip_11 : vD cX12_flip 11 .i2l 1 12 := ⟨by decide +kernel, rfl⟩
theorem eX12_flip_12 : vD cX12_flip 12 (.ldc2_w 142) 3 15 := ⟨by decide +kernel, rfl⟩
theorem eX12_flip_15 : vD cX12_flip 15 .land 1 16 := ⟨by decide +kernel, rfl⟩
theorem eX12_flip_16 : vD cX12_flip 16 (.bipush 8) 2 18 := ⟨by decide +kernel, rfl⟩
theorem eX12_flip_18 : vD cX12_flip 18 (.iload_n 1) 1 19 := ⟨by decide +kernel, rfl⟩
theorem eX12_flip_19 : vD cX12_flip 19 (.bipush 8) 2 21 := ⟨by decide +kernel, rfl⟩
theorem eX12_flip_21 : vD cX12_flip 21 .irem 1 22 := ⟨by decide +kernel, rfl⟩
theorem eX12_flip_22 : vD cX12_flip 22 .imul 1 23 := ⟨by decide +kernel, rfl⟩
theorem eX12_flip_23 : vD cX12_flip 23 .lshl 1 24 := ⟨by decide +kernel, rfl⟩
theorem eX12_flip_24 : vD cX12_flip 24 .lxor 1 25 := ⟨by decide +kernel, rfl⟩
theorem eX12_flip_25 : vD cX12_flip 25 .lastore 1 26 := ⟨by decide +kernel, rfl⟩
theorem eX12_flip_26 : vD cX12_flip 26 .return_ 1 27 := ⟨by decide +kernel, rfl⟩
theorem eX12_left_0 : vD cX12_left 0 (.iload_n 2) 1 1 := ⟨by decide +kernel, rfl⟩
theorem eX12_left_1 : vD cX12_left 1 (.ifCond .ne 7) 3 4 := ⟨by decide +kernel, rfl⟩
theorem eX12_left_4 : vD cX12_left 4 (.lload_n 0) 1 5 := ⟨by decide +kernel, rfl⟩
theorem eX12_left_5 : vD cX12_left 5 (.goto 13) 3 8 := ⟨by decide +kernel, rfl⟩
theorem eX12_left_8 : vD cX12_left 8 (.lload_n 0) 1 9 := ⟨by decide +kernel, rfl⟩
theorem eX12_left_9 : vD cX12_left 9 (.iload_n 2) 1 10 := ⟨by decide +kernel, rfl⟩
theorem eX12_left_10 : vD cX12_left 10 .lshl 1 11 := ⟨by decide +kernel, rfl⟩
theorem eX12_left_11 : vD cX12_left 11 (.lload_n 0) 1 12 := ⟨by decide +kernel, rfl⟩
theorem eX12_left_12 : vD cX12_left 12 (.bipush 64) 2 14 := ⟨by decide +kernel, rfl⟩
theorem eX12_left_14 : vD cX12_left 14 (.iload_n 2) 1 15 := ⟨by decide +kernel, rfl⟩
theorem eX12_left_15 : vD cX12_left 15 .isub 1 16 := ⟨by decide +kernel, rfl⟩
theorem eX12_left_16 : vD cX12_left 16 .lushr 1 17 := ⟨by decide +kernel, rfl⟩
theorem eX12_left_17 : vD cX12_left 17 .lor 1 18 := ⟨by decide +kernel, rfl⟩
theorem eX12_left_18 : vD cX12_left 18 .lreturn 1 19 := ⟨by decide +kernel, rfl⟩
theorem eX12_right_0 : vD cX12_right 0 (.lload_n 0) 1 1 := ⟨by decide +kernel, rfl⟩
theorem eX12_right_1 : vD cX12_right 1 (.iload_n 2) 1 2 := ⟨by decide +kernel, rfl⟩
theorem eX12_right_2 : vD cX12_right 2 .lushr 1 3 := ⟨by decide +kernel, rfl⟩
theorem eX12_right_3 : vD cX12_right 3 (.lload_n 0) 1 4 := ⟨by decide +kernel, rfl⟩
theorem eX12_right_4 : vD cX12_right 4 (.bipush 64) 2 6 := ⟨by decide +kernel, rfl⟩
theorem eX12_right_6 : vD cX12_right 6 (.iload_n 2) 1 7 := ⟨by decide +kernel, rfl⟩
theorem eX12_right_7 : vD cX12_right 7 .isub 1 8 := ⟨by decide +kernel, rfl⟩
theorem eX12_right_8 : vD cX12_right 8 .lshl 1 9 := ⟨by decide +kernel, rfl⟩
theorem eX12_right_9 : vD cX12_right 9 .lor 1 10 := ⟨by decide +kernel, rfl⟩
theorem eX12_right_10 : vD cX12_right 10 .lreturn 1 11 := ⟨by decide +kernel, rfl⟩
theorem eX12_turn_0 : vD cX12_turn 0 (.iload_n 0) 1 1 := ⟨by decide +kernel, rfl⟩
theorem eX12_turn_1 : vD cX12_turn 1 (.iload_n 1) 1 2 := ⟨by decide +kernel, rfl⟩
theorem eX12_turn_2 : vD cX12_turn 2 .iushr 1 3 := ⟨by decide +kernel, rfl⟩
theorem eX12_turn_3 : vD cX12_turn 3 (.iload_n 0) 1 4 := ⟨by decide +kernel, rfl⟩
theorem eX12_turn_4 : vD cX12_turn 4 (.bipush 32) 2 6 := ⟨by decide +kernel, rfl⟩
theorem eX12_turn_6 : vD cX12_turn 6 (.iload_n 1) 1 7 := ⟨by decide +kernel, rfl⟩
theorem eX12_turn_7 : vD cX12_turn 7 .isub 1 8 := ⟨by decide +kernel, rfl⟩
theorem eX12_turn_8 : vD cX12_turn 8 .ishl 1 9 := ⟨by decide +kernel, rfl⟩
theorem eX12_turn_9 : vD cX12_turn 9 .ior 1 10 := ⟨by decide +kernel, rfl⟩
theorem eX12_turn_10 : vD cX12_turn 10 .ireturn 1 11 := ⟨by decide +kernel, rfl⟩
theorem eX12_move_0 : vD cX12_move 0 (.iconst 0) 1 1 := ⟨by decide +kernel, rfl⟩
theorem eX12_move_1 : vD cX12_move 1 (.istore 5) 2 3 := ⟨by decide +kernel, rfl⟩
theorem eX12_move_3 : vD cX12_move 3 (.iload 5) 2 5 := ⟨by decide +kernel, rfl⟩
theorem eX12_move_5 : vD cX12_move 5 (.iload 4) 2 7 := ⟨by decide +kernel, rfl⟩
theorem eX12_move_7 : vD cX12_move 7 (.if_icmp .ge 21) 3 10 := ⟨by decide +kernel, rfl⟩
theorem eX12_move_10 : vD cX12_move 10 (.aload_n 2) 1 11 := ⟨by decide +kernel, rfl⟩
theorem eX12_move_11 : vD cX12_move 11 (.iload_n 3) 1 12 := ⟨by decide +kernel, rfl⟩
theorem eX12_move_12 : vD cX12_move 12 (.iload 5) 2 14 := ⟨by decide +kernel, rfl⟩
theorem eX12_move_14 : vD cX12_move 14 .iadd 1 15 := ⟨by decide +kernel, rfl⟩
theorem eX12_move_15 : vD cX12_move 15 (.aload_n 0) 1 16 := ⟨by decide +kernel, rfl⟩
theorem eX12_move_16 : vD cX12_move 16 (.iload_n 1) 1 17 := ⟨by decide +kernel, rfl⟩
theorem eX12_move_17 : vD cX12_move 17 (.iload 5) 2 19 := ⟨by decide +kernel, rfl⟩
theorem eX12_move_19 : vD cX12_move 19 .iadd 1 20 := ⟨by decide +kernel, rfl⟩
theorem eX12_move_20 : vD cX12_move 20 .baload 1 21 := ⟨by decide +kernel, rfl⟩
theorem eX12_move_21 : vD cX12_move 21 .bastore 1 22 := ⟨by decide +kernel, rfl⟩
theorem eX12_move_22 : vD cX12_move 22 (.iinc 5 1) 3 25 := ⟨by decide +kernel, rfl⟩
theorem eX12_move_25 : vD cX12_move 25 (.goto (-22)) 3 28 := ⟨by decide +kernel, rfl⟩
theorem eX12_move_28 : vD cX12_move 28 .return_ 1 29 := ⟨by decide +kernel, rfl⟩
theorem eX12_permute_0 : vD cX12_permute 0 (.iconst 0) 1 1 := ⟨by decide +kernel, rfl⟩
theorem eX12_permute_1 : vD cX12_permute 1 (.istore_n 1) 1 2 := ⟨by decide +kernel, rfl⟩
theorem eX12_permute_2 : vD cX12_permute 2 (.iload_n 1) 1 3 := ⟨by decide +kernel, rfl⟩
theorem eX12_permute_3 : vD cX12_permute 3 (.bipush 24) 2 5 := ⟨by decide +kernel, rfl⟩
theorem eX12_permute_5 : vD cX12_permute 5 (.if_icmp .ge 287) 3 8 := ⟨by decide +kernel, rfl⟩
theorem eX12_permute_8 : vD cX12_permute 8 (.iconst 0) 1 9 := ⟨by decide +kernel, rfl⟩
theorem eX12_permute_9 : vD cX12_permute 9 (.istore_n 2) 1 10 := ⟨by decide +kernel, rfl⟩
theorem eX12_permute_10 : vD cX12_permute 10 (.iload_n 2) 1 11 := ⟨by decide +kernel, rfl⟩
theorem eX12_permute_11 : vD cX12_permute 11 (.iconst 5) 1 12 := ⟨by decide +kernel, rfl⟩
theorem eX12_permute_12 : vD cX12_permute 12 (.if_icmp .ge 48) 3 15 := ⟨by decide +kernel, rfl⟩
theorem eX12_permute_15 : vD cX12_permute 15 (.aload_n 0) 1 16 := ⟨by decide +kernel, rfl⟩
theorem eX12_permute_16 : vD cX12_permute 16 (.getfield 54) 3 19 := ⟨by decide +kernel, rfl⟩
theorem eX12_permute_19 : vD cX12_permute 19 (.iload_n 2) 1 20 := ⟨by decide +kernel, rfl⟩
theorem eX12_permute_20 : vD cX12_permute 20 (.lconst 0) 1 21 := ⟨by decide +kernel, rfl⟩
theorem eX12_permute_21 : vD cX12_permute 21 .lastore 1 22 := ⟨by decide +kernel, rfl⟩
theorem eX12_permute_22 : vD cX12_permute 22 (.iconst 0) 1 23 := ⟨by decide +kernel, rfl⟩
theorem eX12_permute_23 : vD cX12_permute 23 (.istore_n 3) 1 24 := ⟨by decide +kernel, rfl⟩
theorem eX12_permute_24 : vD cX12_permute 24 (.iload_n 3) 1 25 := ⟨by decide +kernel, rfl⟩
theorem eX12_permute_25 : vD cX12_permute 25 (.iconst 5) 1 26 := ⟨by decide +kernel, rfl⟩
theorem eX12_permute_26 : vD cX12_permute 26 (.if_icmp .ge 28) 3 29 := ⟨by decide +kernel, rfl⟩
theorem eX12_permute_29 : vD cX12_permute 29 (.aload_n 0) 1 30 := ⟨by decide +kernel, rfl⟩
theorem eX12_permute_30 : vD cX12_permute 30 (.getfield 54) 3 33 := ⟨by decide +kernel, rfl⟩
theorem eX12_permute_33 : vD cX12_permute 33 (.iload_n 2) 1 34 := ⟨by decide +kernel, rfl⟩
theorem eX12_permute_34 : vD cX12_permute 34 .dup2 1 35 := ⟨by decide +kernel, rfl⟩
theorem eX12_permute_35 : vD cX12_permute 35 .laload 1 36 := ⟨by decide +kernel, rfl⟩
theorem eX12_permute_36 : vD cX12_permute 36 (.aload_n 0) 1 37 := ⟨by decide +kernel, rfl⟩
theorem eX12_permute_37 : vD cX12_permute 37 (.getfield 48) 3 40 := ⟨by decide +kernel, rfl⟩
theorem eX12_permute_40 : vD cX12_permute 40 (.iload_n 2) 1 41 := ⟨by decide +kernel, rfl⟩
theorem eX12_permute_41 : vD cX12_permute 41 (.iconst 5) 1 42 := ⟨by decide +kernel, rfl⟩
theorem eX12_permute_42 : vD cX12_permute 42 (.iload_n 3) 1 43 := ⟨by decide +kernel, rfl⟩
theorem eX12_permute_43 : vD cX12_permute 43 .imul 1 44 := ⟨by decide +kernel, rfl⟩
theorem eX12_permute_44 : vD cX12_permute 44 .iadd 1 45 := ⟨by decide +kernel, rfl⟩
theorem eX12_permute_45 : vD cX12_permute 45 .laload 1 46 := ⟨by decide +kernel, rfl⟩
theorem eX12_permute_46 : vD cX12_permute 46 .lxor 1 47 := ⟨by decide +kernel, rfl⟩
theorem eX12_permute_47 : vD cX12_permute 47 .lastore 1 48 := ⟨by decide +kernel, rfl⟩
theorem eX12_permute_48 : vD cX12_permute 48 (.iinc 3 1) 3 51 := ⟨by decide +kernel, rfl⟩
theorem eX12_permute_51 : vD cX12_permute 51 (.goto (-27)) 3 54 := ⟨by decide +kernel, rfl⟩
theorem eX12_permute_54 : vD cX12_permute 54 (.iinc 2 1) 3 57 := ⟨by decide +kernel, rfl⟩
theorem eX12_permute_57 : vD cX12_permute 57 (.goto (-47)) 3 60 := ⟨by decide +kernel, rfl⟩
theorem eX12_permute_60 : vD cX12_permute 60 (.iconst 0) 1 61 := ⟨by decide +kernel, rfl⟩
theorem eX12_permute_61 : vD cX12_permute 61 (.istore_n 2) 1 62 := ⟨by decide +kernel, rfl⟩
theorem eX12_permute_62 : vD cX12_permute 62 (.iload_n 2) 1 63 := ⟨by decide +kernel, rfl⟩
theorem eX12_permute_63 : vD cX12_permute 63 (.iconst 5) 1 64 := ⟨by decide +kernel, rfl⟩
theorem eX12_permute_64 : vD cX12_permute 64 (.if_icmp .ge 60) 3 67 := ⟨by decide +kernel, rfl⟩
theorem eX12_permute_67 : vD cX12_permute 67 (.iconst 0) 1 68 := ⟨by decide +kernel, rfl⟩
theorem eX12_permute_68 : vD cX12_permute 68 (.istore_n 3) 1 69 := ⟨by decide +kernel, rfl⟩
theorem eX12_permute_69 : vD cX12_permute 69 (.iload_n 3) 1 70 := ⟨by decide +kernel, rfl⟩
theorem eX12_permute_70 : vD cX12_permute 70 (.iconst 5) 1 71 := ⟨by decide +kernel, rfl⟩
theorem eX12_permute_71 : vD cX12_permute 71 (.if_icmp .ge 47) 3 74 := ⟨by decide +kernel, rfl⟩
theorem eX12_permute_74 : vD cX12_permute 74 (.aload_n 0) 1 75 := ⟨by decide +kernel, rfl⟩
theorem eX12_permute_75 : vD cX12_permute 75 (.getfield 48) 3 78 := ⟨by decide +kernel, rfl⟩
theorem eX12_permute_78 : vD cX12_permute 78 (.iload_n 2) 1 79 := ⟨by decide +kernel, rfl⟩
theorem eX12_permute_79 : vD cX12_permute 79 (.iconst 5) 1 80 := ⟨by decide +kernel, rfl⟩
theorem eX12_permute_80 : vD cX12_permute 80 (.iload_n 3) 1 81 := ⟨by decide +kernel, rfl⟩
theorem eX12_permute_81 : vD cX12_permute 81 .imul 1 82 := ⟨by decide +kernel, rfl⟩
theorem eX12_permute_82 : vD cX12_permute 82 .iadd 1 83 := ⟨by decide +kernel, rfl⟩
theorem eX12_permute_83 : vD cX12_permute 83 .dup2 1 84 := ⟨by decide +kernel, rfl⟩
theorem eX12_permute_84 : vD cX12_permute 84 .laload 1 85 := ⟨by decide +kernel, rfl⟩
theorem eX12_permute_85 : vD cX12_permute 85 (.aload_n 0) 1 86 := ⟨by decide +kernel, rfl⟩
theorem eX12_permute_86 : vD cX12_permute 86 (.getfield 54) 3 89 := ⟨by decide +kernel, rfl⟩
theorem eX12_permute_89 : vD cX12_permute 89 (.iload_n 2) 1 90 := ⟨by decide +kernel, rfl⟩
theorem eX12_permute_90 : vD cX12_permute 90 (.iconst 4) 1 91 := ⟨by decide +kernel, rfl⟩
theorem eX12_permute_91 : vD cX12_permute 91 .iadd 1 92 := ⟨by decide +kernel, rfl⟩
theorem eX12_permute_92 : vD cX12_permute 92 (.iconst 5) 1 93 := ⟨by decide +kernel, rfl⟩
theorem eX12_permute_93 : vD cX12_permute 93 .irem 1 94 := ⟨by decide +kernel, rfl⟩
theorem eX12_permute_94 : vD cX12_permute 94 .laload 1 95 := ⟨by decide +kernel, rfl⟩
theorem eX12_permute_95 : vD cX12_permute 95 (.aload_n 0) 1 96 := ⟨by decide +kernel, rfl⟩
theorem eX12_permute_96 : vD cX12_permute 96 (.getfield 54) 3 99 := ⟨by decide +kernel, rfl⟩
theorem eX12_permute_99 : vD cX12_permute 99 (.iload_n 2) 1 100 := ⟨by decide +kernel, rfl⟩
theorem eX12_permute_100 : vD cX12_permute 100 (.iconst 1) 1 101 := ⟨by decide +kernel, rfl⟩
theorem eX12_permute_101 : vD cX12_permute 101 .iadd 1 102 := ⟨by decide +kernel, rfl⟩
theorem eX12_permute_102 : vD cX12_permute 102 (.iconst 5) 1 103 := ⟨by decide +kernel, rfl⟩
theorem eX12_permute_103 : vD cX12_permute 103 .irem 1 104 := ⟨by decide +kernel, rfl⟩
theorem eX12_permute_104 : vD cX12_permute 104 .laload 1 105 := ⟨by decide +kernel, rfl⟩
theorem eX12_permute_105 : vD cX12_permute 105 (.iconst 1) 1 106 := ⟨by decide +kernel, rfl⟩
theorem eX12_permute_106 : vD cX12_permute 106 (.invokestatic 215) 3 109 := ⟨by decide +kernel, rfl⟩
theorem eX12_permute_109 : vD cX12_permute 109 .lxor 1 110 := ⟨by decide +kernel, rfl⟩
theorem eX12_permute_110 : vD cX12_permute 110 .lxor 1 111 := ⟨by decide +kernel, rfl⟩
theorem eX12_permute_111 : vD cX12_permute 111 .lastore 1 112 := ⟨by decide +kernel, rfl⟩
theorem eX12_permute_112 : vD cX12_permute 112 (.iinc 3 1) 3 115 := ⟨by decide +kernel, rfl⟩
theorem eX12_permute_115 : vD cX12_permute 115 (.goto (-46)) 3 118 := ⟨by decide +kernel, rfl⟩
theorem eX12_permute_118 : vD cX12_permute 118 (.iinc 2 1) 3 121 := ⟨by decide +kernel, rfl⟩
theorem eX12_permute_121 : vD cX12_permute 121 (.goto (-59)) 3 124 := ⟨by decide +kernel, rfl⟩
theorem eX12_permute_124 : vD cX12_permute 124 (.iconst 0) 1 125 := ⟨by decide +kernel, rfl⟩
theorem eX12_permute_125 : vD cX12_permute 125 (.istore_n 2) 1 126 := ⟨by decide +kernel, rfl⟩
theorem eX12_permute_126 : vD cX12_permute 126 (.iload_n 2) 1 127 := ⟨by decide +kernel, rfl⟩
theorem eX12_permute_127 : vD cX12_permute 127 (.iconst 5) 1 128 := ⟨by decide +kernel, rfl⟩
theorem eX12_permute_128 : vD cX12_permute 128 (.if_icmp .ge 63) 3 131 := ⟨by decide +kernel, rfl⟩
theorem eX12_permute_131 : vD cX12_permute 131 (.iconst 0) 1 132 := ⟨by decide +kernel, rfl⟩
theorem eX12_permute_132 : vD cX12_permute 132 (.istore_n 3) 1 133 := ⟨by decide +kernel, rfl⟩
theorem eX12_permute_133 : vD cX12_permute 133 (.iload_n 3) 1 134 := ⟨by decide +kernel, rfl⟩
theorem eX12_permute_134 : vD cX12_permute 134 (.iconst 5) 1 135 := ⟨by decide +kernel, rfl⟩
theorem eX12_permute_135 : vD cX12_permute 135 (.if_icmp .ge 50) 3 138 := ⟨by decide +kernel, rfl⟩
theorem eX12_permute_138 : vD cX12_permute 138 (.aload_n 0) 1 139 := ⟨by decide +kernel, rfl⟩
theorem eX12_permute_139 : vD cX12_permute 139 (.getfield 51) 3 142 := ⟨by decide +kernel, rfl⟩
theorem eX12_permute_142 : vD cX12_permute 142 (.iload_n 3) 1 143 := ⟨by decide +kernel, rfl⟩
theorem eX12_permute_143 : vD cX12_permute 143 (.iconst 5) 1 144 := ⟨by decide +kernel, rfl⟩
theorem eX12_permute_144 : vD cX12_permute 144 (.iconst 2) 1 145 := ⟨by decide +kernel, rfl⟩
theorem eX12_permute_145 : vD cX12_permute 145 (.iload_n 2) 1 146 := ⟨by decide +kernel, rfl⟩
theorem eX12_permute_146 : vD cX12_permute 146 .imul 1 147 := ⟨by decide +kernel, rfl⟩
theorem eX12_permute_147 : vD cX12_permute 147 (.iconst 3) 1 148 := ⟨by decide +kernel, rfl⟩
theorem eX12_permute_148 : vD cX12_permute 148 (.iload_n 3) 1 149 := ⟨by decide +kernel, rfl⟩
theorem eX12_permute_149 : vD cX12_permute 149 .imul 1 150 := ⟨by decide +kernel, rfl⟩
theorem eX12_permute_150 : vD cX12_permute 150 .iadd 1 151 := ⟨by decide +kernel, rfl⟩
theorem eX12_permute_151 : vD cX12_permute 151 (.iconst 5) 1 152 := ⟨by decide +kernel, rfl⟩
theorem eX12_permute_152 : vD cX12_permute 152 .irem 1 153 := ⟨by decide +kernel, rfl⟩
theorem eX12_permute_153 : vD cX12_permute 153 .imul 1 154 := ⟨by decide +kernel, rfl⟩
theorem eX12_permute_154 : vD cX12_permute 154 .iadd 1 155 := ⟨by decide +kernel, rfl⟩
theorem eX12_permute_155 : vD cX12_permute 155 (.aload_n 0) 1 156 := ⟨by decide +kernel, rfl⟩
theorem eX12_permute_156 : vD cX12_permute 156 (.getfield 48) 3 159 := ⟨by decide +kernel, rfl⟩
theorem eX12_permute_159 : vD cX12_permute 159 (.iload_n 2) 1 160 := ⟨by decide +kernel, rfl⟩
theorem eX12_permute_160 : vD cX12_permute 160 (.iconst 5) 1 161 := ⟨by decide +kernel, rfl⟩
theorem eX12_permute_161 : vD cX12_permute 161 (.iload_n 3) 1 162 := ⟨by decide +kernel, rfl⟩
theorem eX12_permute_162 : vD cX12_permute 162 .imul 1 163 := ⟨by decide +kernel, rfl⟩
theorem eX12_permute_163 : vD cX12_permute 163 .iadd 1 164 := ⟨by decide +kernel, rfl⟩
theorem eX12_permute_164 : vD cX12_permute 164 .laload 1 165 := ⟨by decide +kernel, rfl⟩
theorem eX12_permute_165 : vD cX12_permute 165 (.aload_n 0) 1 166 := ⟨by decide +kernel, rfl⟩
theorem eX12_permute_166 : vD cX12_permute 166 (.getfield 42) 3 169 := ⟨by decide +kernel, rfl⟩
theorem eX12_permute_169 : vD cX12_permute 169 (.iload_n 2) 1 170 := ⟨by decide +kernel, rfl⟩
theorem eX12_permute_170 : vD cX12_permute 170 (.iconst 5) 1 171 := ⟨by decide +kernel, rfl⟩
theorem eX12_permute_171 : vD cX12_permute 171 (.iload_n 3) 1 172 := ⟨by decide +kernel, rfl⟩
theorem eX12_permute_172 : vD cX12_permute 172 .imul 1 173 := ⟨by decide +kernel, rfl⟩
theorem eX12_permute_173 : vD cX12_permute 173 .iadd 1 174 := ⟨by decide +kernel, rfl⟩
theorem eX12_permute_174 : vD cX12_permute 174 .iaload 1 175 := ⟨by decide +kernel, rfl⟩
theorem eX12_permute_175 : vD cX12_permute 175 (.invokestatic 215) 3 178 := ⟨by decide +kernel, rfl⟩
theorem eX12_permute_178 : vD cX12_permute 178 .lastore 1 179 := ⟨by decide +kernel, rfl⟩
theorem eX12_permute_179 : vD cX12_permute 179 (.iinc 3 1) 3 182 := ⟨by decide +kernel, rfl⟩
theorem eX12_permute_182 : vD cX12_permute 182 (.goto (-49)) 3 185 := ⟨by decide +kernel, rfl⟩
theorem eX12_permute_185 : vD cX12_permute 185 (.iinc 2 1) 3 188 := ⟨by decide +kernel, rfl⟩
theorem eX12_permute_188 : vD cX12_permute 188 (.goto (-62)) 3 191 := ⟨by decide +kernel, rfl⟩
theorem eX12_permute_191 : vD cX12_permute 191 (.iconst 0) 1 192 := ⟨by decide +kernel, rfl⟩
theorem eX12_permute_192 : vD cX12_permute 192 (.istore_n 2) 1 193 := ⟨by decide +kernel, rfl⟩
theorem eX12_permute_193 : vD cX12_permute 193 (.iload_n 2) 1 194 := ⟨by decide +kernel, rfl⟩
theorem eX12_permute_194 : vD cX12_permute 194 (.iconst 5) 1 195 := ⟨by decide +kernel, rfl⟩
theorem eX12_permute_195 : vD cX12_permute 195 (.if_icmp .ge 76) 3 198 := ⟨by decide +kernel, rfl⟩
theorem eX12_permute_198 : vD cX12_permute 198 (.iconst 0) 1 199 := ⟨by decide +kernel, rfl⟩
theorem eX12_permute_199 : vD cX12_permute 199 (.istore_n 3) 1 200 := ⟨by decide +kernel, rfl⟩
theorem eX12_permute_200 : vD cX12_permute 200 (.iload_n 3) 1 201 := ⟨by decide +kernel, rfl⟩
theorem eX12_permute_201 : vD cX12_permute 201 (.iconst 5) 1 202 := ⟨by decide +kernel, rfl⟩
theorem eX12_permute_202 : vD cX12_permute 202 (.if_icmp .ge 63) 3 205 := ⟨by decide +kernel, rfl⟩
theorem eX12_permute_205 : vD cX12_permute 205 (.aload_n 0) 1 206 := ⟨by decide +kernel, rfl⟩
theorem eX12_permute_206 : vD cX12_permute 206 (.getfield 48) 3 209 := ⟨by decide +kernel, rfl⟩
theorem eX12_permute_209 : vD cX12_permute 209 (.iload_n 2) 1 210 := ⟨by decide +kernel, rfl⟩
theorem eX12_permute_210 : vD cX12_permute 210 (.iconst 5) 1 211 := ⟨by decide +kernel, rfl⟩
theorem eX12_permute_211 : vD cX12_permute 211 (.iload_n 3) 1 212 := ⟨by decide +kernel, rfl⟩
theorem eX12_permute_212 : vD cX12_permute 212 .imul 1 213 := ⟨by decide +kernel, rfl⟩
theorem eX12_permute_213 : vD cX12_permute 213 .iadd 1 214 := ⟨by decide +kernel, rfl⟩
theorem eX12_permute_214 : vD cX12_permute 214 (.aload_n 0) 1 215 := ⟨by decide +kernel, rfl⟩
theorem eX12_permute_215 : vD cX12_permute 215 (.getfield 51) 3 218 := ⟨by decide +kernel, rfl⟩
theorem eX12_permute_218 : vD cX12_permute 218 (.iload_n 2) 1 219 := ⟨by decide +kernel, rfl⟩
theorem eX12_permute_219 : vD cX12_permute 219 (.iconst 5) 1 220 := ⟨by decide +kernel, rfl⟩
theorem eX12_permute_220 : vD cX12_permute 220 (.iload_n 3) 1 221 := ⟨by decide +kernel, rfl⟩
theorem eX12_permute_221 : vD cX12_permute 221 .imul 1 222 := ⟨by decide +kernel, rfl⟩
theorem eX12_permute_222 : vD cX12_permute 222 .iadd 1 223 := ⟨by decide +kernel, rfl⟩
theorem eX12_permute_223 : vD cX12_permute 223 .laload 1 224 := ⟨by decide +kernel, rfl⟩
theorem eX12_permute_224 : vD cX12_permute 224 (.aload_n 0) 1 225 := ⟨by decide +kernel, rfl⟩
theorem eX12_permute_225 : vD cX12_permute 225 (.getfield 51) 3 228 := ⟨by decide +kernel, rfl⟩
theorem eX12_permute_228 : vD cX12_permute 228 (.iload_n 2) 1 229 := ⟨by decide +kernel, rfl⟩
theorem eX12_permute_229 : vD cX12_permute 229 (.iconst 1) 1 230 := ⟨by decide +kernel, rfl⟩
theorem eX12_permute_230 : vD cX12_permute 230 .iadd 1 231 := ⟨by decide +kernel, rfl⟩
theorem eX12_permute_231 : vD cX12_permute 231 (.iconst 5) 1 232 := ⟨by decide +kernel, rfl⟩
theorem eX12_permute_232 : vD cX12_permute 232 .irem 1 233 := ⟨by decide +kernel, rfl⟩
theorem eX12_permute_233 : vD cX12_permute 233 (.iconst 5) 1 234 := ⟨by decide +kernel, rfl⟩
theorem eX12_permute_234 : vD cX12_permute 234 (.iload_n 3) 1 235 := ⟨by decide +kernel, rfl⟩
theorem eX12_permute_235 : vD cX12_permute 235 .imul 1 236 := ⟨by decide +kernel, rfl⟩
theorem eX12_permute_236 : vD cX12_permute 236 .iadd 1 237 := ⟨by decide +kernel, rfl⟩
theorem eX12_permute_237 : vD cX12_permute 237 .laload 1 238 := ⟨by decide +kernel, rfl⟩
theorem eX12_permute_238 : vD cX12_permute 238 (.ldc2_w 219) 3 241 := ⟨by decide +kernel, rfl⟩
theorem eX12_permute_241 : vD cX12_permute 241 .lxor 1 242 := ⟨by decide +kernel, rfl⟩
theorem eX12_permute_242 : vD cX12_permute 242 (.aload_n 0) 1 243 := ⟨by decide +kernel, rfl⟩
theorem eX12_permute_243 : vD cX12_permute 243 (.getfield 51) 3 246 := ⟨by decide +kernel, rfl⟩
theorem eX12_permute_246 : vD cX12_permute 246 (.iload_n 2) 1 247 := ⟨by decide +kernel, rfl⟩
theorem eX12_permute_247 : vD cX12_permute 247 (.iconst 2) 1 248 := ⟨by decide +kernel, rfl⟩
theorem eX12_permute_248 : vD cX12_permute 248 .iadd 1 249 := ⟨by decide +kernel, rfl⟩
theorem eX12_permute_249 : vD cX12_permute 249 (.iconst 5) 1 250 := ⟨by decide +kernel, rfl⟩
theorem eX12_permute_250 : vD cX12_permute 250 .irem 1 251 := ⟨by decide +kernel, rfl⟩
theorem eX12_permute_251 : vD cX12_permute 251 (.iconst 5) 1 252 := ⟨by decide +kernel, rfl⟩
theorem eX12_permute_252 : vD cX12_permute 252 (.iload_n 3) 1 253 := ⟨by decide +kernel, rfl⟩
theorem eX12_permute_253 : vD cX12_permute 253 .imul 1 254 := ⟨by decide +kernel, rfl⟩
theorem eX12_permute_254 : vD cX12_permute 254 .iadd 1 255 := ⟨by decide +kernel, rfl⟩
theorem eX12_permute_255 : vD cX12_permute 255 .laload 1 256 := ⟨by decide +kernel, rfl⟩
theorem eX12_permute_256 : vD cX12_permute 256 .land 1 257 := ⟨by decide +kernel, rfl⟩
theorem eX12_permute_257 : vD cX12_permute 257 .lxor 1 258 := ⟨by decide +kernel, rfl⟩
theorem eX12_permute_258 : vD cX12_permute 258 .lastore 1 259 := ⟨by decide +kernel, rfl⟩
theorem eX12_permute_259 : vD cX12_permute 259 (.iinc 3 1) 3 262 := ⟨by decide +kernel, rfl⟩
theorem eX12_permute_262 : vD cX12_permute 262 (.goto (-62)) 3 265 := ⟨by decide +kernel, rfl⟩
theorem eX12_permute_265 : vD cX12_permute 265 (.iinc 2 1) 3 268 := ⟨by decide +kernel, rfl⟩
theorem eX12_permute_268 : vD cX12_permute 268 (.goto (-75)) 3 271 := ⟨by decide +kernel, rfl⟩
theorem eX12_permute_271 : vD cX12_permute 271 (.aload_n 0) 1 272 := ⟨by decide +kernel, rfl⟩
theorem eX12_permute_272 : vD cX12_permute 272 (.getfield 48) 3 275 := ⟨by decide +kernel, rfl⟩
theorem eX12_permute_275 : vD cX12_permute 275 (.iconst 0) 1 276 := ⟨by decide +kernel, rfl⟩
theorem eX12_permute_276 : vD cX12_permute 276 .dup2 1 277 := ⟨by decide +kernel, rfl⟩
theorem eX12_permute_277 : vD cX12_permute 277 .laload 1 278 := ⟨by decide +kernel, rfl⟩
theorem eX12_permute_278 : vD cX12_permute 278 (.aload_n 0) 1 279 := ⟨by decide +kernel, rfl⟩
theorem eX12_permute_279 : vD cX12_permute 279 (.getfield 45) 3 282 := ⟨by decide +kernel, rfl⟩
theorem eX12_permute_282 : vD cX12_permute 282 (.iload_n 1) 1 283 := ⟨by decide +kernel, rfl⟩
theorem eX12_permute_283 : vD cX12_permute 283 .laload 1 284 := ⟨by decide +kernel, rfl⟩
theorem eX12_permute_284 : vD cX12_permute 284 .lxor 1 285 := ⟨by decide +kernel, rfl⟩
theorem eX12_permute_285 : vD cX12_permute 285 .lastore 1 286 := ⟨by decide +kernel, rfl⟩
theorem eX12_permute_286 : vD cX12_permute 286 (.iinc 1 1) 3 289 := ⟨by decide +kernel, rfl⟩
theorem eX12_permute_289 : vD cX12_permute 289 (.goto (-287)) 3 292 := ⟨by decide +kernel, rfl⟩
theorem eX12_permute_292 : vD cX12_permute 292 .return_ 1 293 := ⟨by decide +kernel, rfl⟩

/-! THE REFERENCE'S OBJECT (name 49); its arrays are the names 0 .. 48 by their fields, slot's rows 50 .. 57, pairs' rows 58 .. 73 -/
def mO (ad : Nat → Nat) (x : Nat → Int32) (t : Int64) : List Value := [.ref (ad 0), .ref (ad 1), .ref (ad 2), .int (x 3), .int (x 4), .ref (ad 5), .ref (ad 6), .ref (ad 7), .ref (ad 8), .ref (ad 9), .ref (ad 10), .ref (ad 11), .ref (ad 12), .ref (ad 13), .ref (ad 14), .ref (ad 15), .ref (ad 16), .ref (ad 17), .int (x 18), .int (x 19), .int (x 20), .long t, .ref (ad 22), .ref (ad 23), .ref (ad 24), .ref (ad 25), .ref (ad 26), .ref (ad 27), .ref (ad 28), .ref (ad 29), .ref (ad 30), .ref (ad 31), .ref (ad 32), .ref (ad 33), .ref (ad 34), .ref (ad 35), .ref (ad 36), .ref (ad 37), .ref (ad 38), .ref (ad 39), .ref (ad 40), .int (x 41), .int (x 42), .int (x 43), .int (x 44), .int (x 45), .int (x 46), .int (x 47), .int (x 48)]
theorem n_ne {σ : nS} {a k : Nat} {e : va_E} (h : k ≠ a) : va_up σ a e k = σ k := by simp [va_up, h]
theorem n_self {σ : nS} {a : Nat} {e : va_E} : va_up σ a e a = e := by simp [va_up]
/-- one byte into the lanes -/
def sp1 (S : Nat → Int64) (a : Nat) (v : Int32) : Nat → Int64 := vp_updL S (a / 8) (S (a / 8) ^^^ ((v.toInt64 &&& 255) <<< ((nI (8 * (a % 8))).toInt64 &&& 63)))
/-- rotations as the reference has them -/
def rlR (v : Int64) (n : Int32) : Int64 := if n = 0 then v else (v <<< (n.toInt64 &&& 63)) ||| (v.toUInt64 >>> ((64 - n).toInt64.toUInt64 &&& Int64.toUInt64 63)).toInt64
def rrR (v : Int64) (n : Int32) : Int64 := (v.toUInt64 >>> (n.toInt64.toUInt64 &&& Int64.toUInt64 63)).toInt64 ||| (v <<< ((64 - n).toInt64 &&& 63))
def rtR (v n : Int32) : Int32 := (v.toUInt32 >>> (n.toUInt32 &&& Int32.toUInt32 31)).toInt32 ||| (v <<< ((32 - n) &&& 31))
section M1
variable {G : vG} {B : Nat} {l : Launch} {ad : Nat → Nat} {N : Nat}
set_option maxRecDepth 100000 in
set_option maxHeartbeats 4000000 in
theorem c_flip (I : nI1 ad N) (hN : ∀ k, k < 74 → k < N) {σ : nS} {x : Nat → Int32} {t : Int64} {S : Nat → Int64} (h49 : σ 49 = eO 9 (mO ad x t)) (h13 : σ 13 = eJ G 25 S) (a : Nat) (v : Int32) (ha : a < 200) : nOk G B l ad N yX12_flip cX12_flip 3 none 0 0 0 [.ref (ad 49), .int (nI a), .int v] σ (fun r σ' => r = none ∧ σ' = va_up σ 13 (eJ G 25 (sp1 S a v))) := by
  refine vOk.of (by decide +kernel) (Nat.le_of_ble_eq_true rfl) ?_
  intro p e s m args below meth c C
  refine v_eq (lv' := [(0, .ref (ad 49)), (1, .int (nI a)), (2, .int v)]) rfl rfl rfl ?_
  refine v_aload_n C eX12_flip_0 rfl 0 rfl ?_
  refine n_get C I fX12_48_X12 eX12_flip_1 (hN 49 (by decide)) h49 rfl ?_
  refine v_iload_n C eX12_flip_4 rfl 1 rfl ?_
  refine v_bipush (v := (8 : Int32)) C eX12_flip_5 (by decide) ?_
  refine v_idiv C eX12_flip_7 (by decide) ?_
  refine v_dup2_11 C eX12_flip_8 rfl rfl ?_
  refine n_lald C I eX12_flip_9 (hN 13 (by decide)) h13 (a / 8) (ix_div (a := a) (d := 8) (rfl : nI a = nI a) (rfl : (8 : Int32) = nI 8) (by omega) (by omega) (by omega)) (by omega) (by decide) ?_
  refine v_iload_n C eX12_flip_10 rfl 2 rfl ?_
  refine v_i2l C eX12_flip_11 ?_
  refine v_ldc2 (v := (255 : Int64)) C eX12_flip_12 vw_1146 ?_
  refine v_land C eX12_flip_15 ?_
  refine v_bipush (v := (8 : Int32)) C eX12_flip_16 (by decide) ?_
  refine v_iload_n C eX12_flip_18 rfl 1 rfl ?_
  refine v_bipush (v := (8 : Int32)) C eX12_flip_19 (by decide) ?_
  refine v_irem C eX12_flip_21 (by decide) ?_
  refine v_imul C eX12_flip_22 ?_
  refine v_lshl C eX12_flip_23 ?_
  refine v_lxor C eX12_flip_24 ?_
  refine v_topl (fun x1 hx1 => ?_)
  refine n_last C I eX12_flip_25 (hN 13 (by decide)) h13 (a / 8) (ix_div (a := a) (d := 8) (rfl : nI a = nI a) (rfl : (8 : Int32) = nI 8) (by omega) (by omega) (by omega)) (by omega) (by decide) ?_
  exact n_vret C rfl eX12_flip_26 ⟨rfl, by rw [hx1, show (8 : Int32) * (nI a - nI a / 8 * 8) = nI (8 * (a % 8)) from ix_mul rfl (ix_rem rfl rfl (by omega) (by decide) (by decide))]; rfl⟩

set_option maxRecDepth 100000 in
set_option maxHeartbeats 4000000 in
theorem c_sponge (I : nI1 ad N) (hN : ∀ k, k < 74 → k < N) {σ : nS} {x : Nat → Int32} {t : Int64} (h49 : σ 49 = eO 9 (mO ad x t)) : nOk G B l ad N yX12_sponge cX12_sponge 1 (some .boolean) 0 0 0 [.ref (ad 49)] σ (fun r σ' => r = some (.int (if x 18 ≤ 6 then 0 else 1)) ∧ σ' = σ) := by
  refine vOk.of (by decide +kernel) (Nat.le_of_ble_eq_true rfl) ?_
  intro p e s m args below meth c C
  refine v_eq (lv' := [(0, .ref (ad 49))]) rfl rfl rfl ?_
  refine v_aload_n C eX12_sponge_0 rfl 0 rfl ?_
  refine n_get C I fX12_177_X12 eX12_sponge_1 (hN 49 (by decide)) h49 rfl ?_
  refine v_bipush (v := (6 : Int32)) C eX12_sponge_4 (by decide) ?_
  refine v_icmp_le (tgt := 13) C eX12_sponge_6 (by decide) (fun c1 => ?_) (fun c1 => ?_)
  · refine v_iconst (v := (0 : Int32)) C eX12_sponge_13 (by decide) ?_
    exact n_zret C rfl (by decide) eX12_sponge_14 ⟨by rw [if_pos c1], rfl⟩
  · refine v_iconst (v := (1 : Int32)) C eX12_sponge_9 (by decide) ?_
    refine v_goto (tgt := 14) C eX12_sponge_10 (by decide) ?_
    exact n_zret C rfl (by decide) eX12_sponge_14 ⟨by rw [if_neg c1], rfl⟩

set_option maxRecDepth 100000 in
set_option maxHeartbeats 4000000 in
theorem c_left {σ : nS} (v : Int64) (n : Int32) : nOk G B l ad N yX12_left cX12_left 3 (some .long) 0 0 0 [.long v, .int n] σ (fun r σ' => r = some (.long (rlR v n)) ∧ σ' = σ) := by
  refine vOk.of (by decide +kernel) (Nat.le_of_ble_eq_true rfl) ?_
  intro p e s m args below meth c C
  refine v_eq (lv' := [(0, .long v), (2, .int n)]) rfl rfl rfl ?_
  refine v_iload_n C eX12_left_0 rfl 1 rfl ?_
  refine v_if_ne (tgt := 8) C eX12_left_1 (by decide) (fun c1 => ?_) (fun c1 => ?_)
  · refine v_lload_n C eX12_left_8 rfl 0 rfl ?_
    refine v_iload_n C eX12_left_9 rfl 1 rfl ?_
    refine v_lshl C eX12_left_10 ?_
    refine v_lload_n C eX12_left_11 rfl 0 rfl ?_
    refine v_bipush (v := (64 : Int32)) C eX12_left_12 (by decide) ?_
    refine v_iload_n C eX12_left_14 rfl 1 rfl ?_
    refine v_isub C eX12_left_15 ?_
    refine v_lushr C eX12_left_16 ?_
    refine v_lor C eX12_left_17 ?_
    exact n_lret C rfl eX12_left_18 ⟨by rw [rlR, if_neg c1], rfl⟩
  · refine v_lload_n C eX12_left_4 rfl 0 rfl ?_
    refine v_goto (tgt := 18) C eX12_left_5 (by decide) ?_
    exact n_lret C rfl eX12_left_18 ⟨by rw [rlR, if_pos c1], rfl⟩

set_option maxRecDepth 100000 in
set_option maxHeartbeats 4000000 in
theorem c_right {σ : nS} (v : Int64) (n : Int32) : nOk G B l ad N yX12_right cX12_right 3 (some .long) 0 0 0 [.long v, .int n] σ (fun r σ' => r = some (.long (rrR v n)) ∧ σ' = σ) := by
  refine vOk.of (by decide +kernel) (Nat.le_of_ble_eq_true rfl) ?_
  intro p e s m args below meth c C
  refine v_eq (lv' := [(0, .long v), (2, .int n)]) rfl rfl rfl ?_
  refine v_lload_n C eX12_right_0 rfl 0 rfl ?_
  refine v_iload_n C eX12_right_1 rfl 1 rfl ?_
  refine v_lushr C eX12_right_2 ?_
  refine v_lload_n C eX12_right_3 rfl 0 rfl ?_
  refine v_bipush (v := (64 : Int32)) C eX12_right_4 (by decide) ?_
  refine v_iload_n C eX12_right_6 rfl 1 rfl ?_
  refine v_isub C eX12_right_7 ?_
  refine v_lshl C eX12_right_8 ?_
  refine v_lor C eX12_right_9 ?_
  exact n_lret C rfl eX12_right_10 ⟨rfl, rfl⟩

set_option maxRecDepth 100000 in
set_option maxHeartbeats 4000000 in
theorem c_turn {σ : nS} (v n : Int32) : nOk G B l ad N yX12_turn cX12_turn 2 (some .int) 0 0 0 [.int v, .int n] σ (fun r σ' => r = some (.int (rtR v n)) ∧ σ' = σ) := by
  refine vOk.of (by decide +kernel) (Nat.le_of_ble_eq_true rfl) ?_
  intro p e s m args below meth c C
  refine v_eq (lv' := [(0, .int v), (1, .int n)]) rfl rfl rfl ?_
  refine v_iload_n C eX12_turn_0 rfl 0 rfl ?_
  refine v_iload_n C eX12_turn_1 rfl 1 rfl ?_
  refine v_iushr C eX12_turn_2 ?_
  refine v_iload_n C eX12_turn_3 rfl 0 rfl ?_
  refine v_bipush (v := (32 : Int32)) C eX12_turn_4 (by decide) ?_
  refine v_iload_n C eX12_turn_6 rfl 1 rfl ?_
  refine v_isub C eX12_turn_7 ?_
  refine v_ishl C eX12_turn_8 ?_
  refine v_ior C eX12_turn_9 ?_
  exact n_iret C rfl eX12_turn_10 ⟨rfl, rfl⟩

/-- the reference's permutation, turn by turn, as its loops go; T: the turns, K: the constants of the rounds -/
def pmCol (S : Nat → Int64) (a : Nat) (c : Nat → Int64) : Nat → Int64 := itN (fun b c => vp_updL c a (c a ^^^ S (a + 5 * b))) 5 (vp_updL c a 0)
def pmC (S c : Nat → Int64) : Nat → Int64 := itN (fun a c => pmCol S a c) 5 c
def pmTh (c S : Nat → Int64) : Nat → Int64 := itN (fun a S => itN (fun b S => vp_updL S (a + 5 * b) (S (a + 5 * b) ^^^ (c ((a + 4) % 5) ^^^ rlR (c ((a + 1) % 5)) 1))) 5 S) 5 S
def pmRo (T : Nat → Int32) (S o : Nat → Int64) : Nat → Int64 := itN (fun a o => itN (fun b o => vp_updL o (b + 5 * ((2 * a + 3 * b) % 5)) (rlR (S (a + 5 * b)) (T (a + 5 * b)))) 5 o) 5 o
def pmCh (o S : Nat → Int64) : Nat → Int64 := itN (fun a S => itN (fun b S => vp_updL S (a + 5 * b) (o (a + 5 * b) ^^^ ((o ((a + 1) % 5 + 5 * b) ^^^ (-1)) &&& o ((a + 2) % 5 + 5 * b)))) 5 S) 5 S
def pmR (T : Nat → Int32) (K : Nat → Int64) (i : Nat) (q : (Nat → Int64) × (Nat → Int64) × (Nat → Int64)) : (Nat → Int64) × (Nat → Int64) × (Nat → Int64) :=
  let c := pmC q.1 q.2.2
  let S1 := pmTh c q.1
  let o := pmRo T S1 q.2.1
  let S2 := pmCh o S1
  (vp_updL S2 0 (S2 0 ^^^ K i), o, c)

set_option maxRecDepth 100000 in
set_option maxHeartbeats 4000000 in
theorem pm_1 (I : nI1 ad N) (hN : ∀ k, k < 74 → k < N) {σ : nS} {p : Program} {e : Env} {R : Room} {s : State} {m : MethodId} {args : Array Value} {below : List Frame} {meth : Method} {c : Code} {cells slots : Nat} {Q : State → Prop} (C : vC G B p m meth c cX12_permute 4 none s args yX12_permute.cls) {x : Nat → Int32} {t : Int64} {S O D : Nat → Int64} {T : Nat → Int32} {K : Nat → Int64} (h49 : σ 49 = eO 9 (mO ad x t)) (h11 : σ 11 = eI G 25 T) (h12 : σ 12 = eJ G 24 K) {i : Nat} (hi : i < 24) (kk : V G B p l e R s m args below meth c 4 cells slots Q (nW ad N (va_up (va_up (va_up σ 13 (eJ G 25 S)) 14 (eJ G 25 O)) 15 (eJ G 5 (pmC S D)))) 60 [(0, .ref (ad 49)), (1, .int (nI i))] []) : V G B p l e R s m args below meth c 4 cells slots Q (nW ad N (va_up (va_up (va_up σ 13 (eJ G 25 S)) 14 (eJ G 25 O)) 15 (eJ G 5 D))) 8 [(0, .ref (ad 49)), (1, .int (nI i))] [] := by
  refine v_iconst (v := (0 : Int32)) C eX12_permute_8 (by decide) ?_
  refine v_istore_n (lv' := [(0, .ref (ad 49)), (1, .int (nI i)), (2, .int ((0 : Int32)))]) C eX12_permute_9 rfl (by decide) [1, 2, 0] rfl ?_
  refine v_forV (fun a => va_up (va_up (va_up σ 13 (eJ G 25 S)) 14 (eJ G 25 O)) 15 (eJ G 5 (itN (fun a c => pmCol S a c) a D))) (fun a => [(0, .ref (ad 49)), (1, .int (nI i)), (2, .int (nI a))]) 5 ?_ ?_
  · refine v_iload_n C eX12_permute_10 rfl 2 rfl ?_
    refine v_iconst (v := (5 : Int32)) C eX12_permute_11 (by decide) ?_
    refine v_icmp_ge (tgt := 60) C eX12_permute_12 (by decide) (fun _ => ?_) (fun h => absurd (ix_le (a := 5) (b := 5) (rfl : (5 : Int32) = nI 5) (rfl : nI 5 = nI 5) (by omega) (by omega) (by omega)) h)
    refine v_pick (lv' := [(0, .ref (ad 49)), (1, .int (nI i))]) [0, 1] rfl ?_
    exact kk
  · intro a ha iha
    refine v_iload_n C eX12_permute_10 rfl 2 rfl ?_
    refine v_iconst (v := (5 : Int32)) C eX12_permute_11 (by decide) ?_
    refine v_icmp_ge (tgt := 60) C eX12_permute_12 (by decide) (fun h => absurd h (ix_nle (a := 5) (b := a) (rfl : (5 : Int32) = nI 5) (rfl : nI a = nI a) (by omega) (by omega) (by omega))) (fun _ => ?_)
    refine v_aload_n C eX12_permute_15 rfl 0 rfl ?_
    refine n_get C I fX12_54_X12 eX12_permute_16 (hN 49 (by decide)) h49 rfl ?_
    refine v_iload_n C eX12_permute_19 rfl 2 rfl ?_
    refine v_lconst (v := (0 : Int64)) C eX12_permute_20 (by decide) ?_
    refine n_last C I eX12_permute_21 (hN 15 (by decide)) rfl a (rfl : nI a = nI a) (by omega) (by decide) ?_
    refine v_iconst (v := (0 : Int32)) C eX12_permute_22 (by decide) ?_
    refine v_istore_n (lv' := [(0, .ref (ad 49)), (1, .int (nI i)), (2, .int (nI a)), (3, .int ((0 : Int32)))]) C eX12_permute_23 rfl (by decide) [1, 2, 3, 0] rfl ?_
    refine v_eq (w' := nW ad N (va_up (va_up (va_up σ 13 (eJ G 25 S)) 14 (eJ G 25 O)) 15 (eJ G 5 (vp_updL (itN (fun a c => pmCol S a c) a D) a ((0 : Int64)))))) (congrArg (nW ad N) (n_extL [13, 14, 15] ⟨rfl, rfl, rfl, trivial⟩ (fun q h => by simp only [List.mem_cons, List.not_mem_nil, or_false, not_or] at h; simp [va_up, h]))) rfl rfl ?_
    refine v_forV (fun b => va_up (va_up (va_up σ 13 (eJ G 25 S)) 14 (eJ G 25 O)) 15 (eJ G 5 (itN (fun b c => vp_updL c a (c a ^^^ S (a + 5 * b))) b (vp_updL (itN (fun a c => pmCol S a c) a D) a ((0 : Int64)))))) (fun b => [(0, .ref (ad 49)), (1, .int (nI i)), (2, .int (nI a)), (3, .int (nI b))]) 5 ?_ ?_
    · refine v_iload_n C eX12_permute_24 rfl 3 rfl ?_
      refine v_iconst (v := (5 : Int32)) C eX12_permute_25 (by decide) ?_
      refine v_icmp_ge (tgt := 54) C eX12_permute_26 (by decide) (fun _ => ?_) (fun h => absurd (ix_le (a := 5) (b := 5) (rfl : (5 : Int32) = nI 5) (rfl : nI 5 = nI 5) (by omega) (by omega) (by omega)) h)
      refine v_iinc (lv' := [(0, .ref (ad 49)), (1, .int (nI i)), (2, .int (nI (a + 1))), (3, .int (nI 5))]) C eX12_permute_54 2 rfl (ix_inc _) (by decide) [1, 2, 0, 3] rfl ?_
      refine v_goto (tgt := 10) C eX12_permute_57 (by decide) ?_
      refine v_pick (lv' := [(0, .ref (ad 49)), (1, .int (nI i)), (2, .int (nI (a + 1)))]) [0, 1, 2] rfl ?_
      exact iha
    · intro b hb ihb
      refine v_iload_n C eX12_permute_24 rfl 3 rfl ?_
      refine v_iconst (v := (5 : Int32)) C eX12_permute_25 (by decide) ?_
      refine v_icmp_ge (tgt := 54) C eX12_permute_26 (by decide) (fun h => absurd h (ix_nle (a := 5) (b := b) (rfl : (5 : Int32) = nI 5) (rfl : nI b = nI b) (by omega) (by omega) (by omega))) (fun _ => ?_)
      refine v_aload_n C eX12_permute_29 rfl 0 rfl ?_
      refine n_get C I fX12_54_X12 eX12_permute_30 (hN 49 (by decide)) h49 rfl ?_
      refine v_iload_n C eX12_permute_33 rfl 2 rfl ?_
      refine v_dup2_11 C eX12_permute_34 rfl rfl ?_
      refine n_lald C I eX12_permute_35 (hN 15 (by decide)) rfl a (rfl : nI a = nI a) (by omega) (by decide) ?_
      refine v_aload_n C eX12_permute_36 rfl 0 rfl ?_
      refine n_get C I fX12_48_X12 eX12_permute_37 (hN 49 (by decide)) h49 rfl ?_
      refine v_iload_n C eX12_permute_40 rfl 2 rfl ?_
      refine v_iconst (v := (5 : Int32)) C eX12_permute_41 (by decide) ?_
      refine v_iload_n C eX12_permute_42 rfl 3 rfl ?_
      refine v_imul C eX12_permute_43 ?_
      refine v_iadd C eX12_permute_44 ?_
      refine n_lald C I eX12_permute_45 (hN 13 (by decide)) rfl (a + (5 * b)) (ix_add (a := a) (b := 5 * b) (rfl : nI a = nI a) (ix_mul (a := 5) (b := b) (rfl : (5 : Int32) = nI 5) (rfl : nI b = nI b))) (by omega) (by decide) ?_
      refine v_lxor C eX12_permute_46 ?_
      refine n_last C I eX12_permute_47 (hN 15 (by decide)) rfl a (rfl : nI a = nI a) (by omega) (by decide) ?_
      refine v_iinc (lv' := [(0, .ref (ad 49)), (1, .int (nI i)), (2, .int (nI a)), (3, .int (nI (b + 1)))]) C eX12_permute_48 3 rfl (ix_inc _) (by decide) [1, 2, 3, 0] rfl ?_
      refine v_goto (tgt := 24) C eX12_permute_51 (by decide) ?_
      refine v_eq (w' := nW ad N (va_up (va_up (va_up σ 13 (eJ G 25 S)) 14 (eJ G 25 O)) 15 (eJ G 5 (vp_updL (itN (fun b c => vp_updL c a (c a ^^^ S (a + 5 * b))) b (vp_updL (itN (fun a c => pmCol S a c) a D) a ((0 : Int64)))) a (((itN (fun b c => vp_updL c a (c a ^^^ S (a + 5 * b))) b (vp_updL (itN (fun a c => pmCol S a c) a D) a ((0 : Int64)))) a) ^^^ (S (a + (5 * b)))))))) (congrArg (nW ad N) (n_extL [13, 14, 15] ⟨rfl, rfl, rfl, trivial⟩ (fun q h => by simp only [List.mem_cons, List.not_mem_nil, or_false, not_or] at h; simp [va_up, h]))) rfl rfl ?_
      exact ihb

set_option maxRecDepth 100000 in
set_option maxHeartbeats 4000000 in
theorem pm_2 (I : nI1 ad N) (hN : ∀ k, k < 74 → k < N) {σ : nS} {p : Program} {e : Env} {R : Room} {s : State} {m : MethodId} {args : Array Value} {below : List Frame} {meth : Method} {c : Code} {cells slots : Nat} {Q : State → Prop} (C : vC G B p m meth c cX12_permute 4 none s args yX12_permute.cls) {x : Nat → Int32} {t : Int64} {S O D : Nat → Int64} {T : Nat → Int32} {K : Nat → Int64} (h49 : σ 49 = eO 9 (mO ad x t)) (h11 : σ 11 = eI G 25 T) (h12 : σ 12 = eJ G 24 K) {i : Nat} (hi : i < 24) {d1 mc1 ms1 : Nat} (hR : R = vRm d1 mc1 ms1) (hdd : 0 + 1 ≤ d1) (hrc : cells + 0 ≤ mc1) (hrs : slots + 0 ≤ ms1) (kk : V G B p l e R s m args below meth c 4 cells slots Q (nW ad N (va_up (va_up (va_up σ 13 (eJ G 25 (pmTh D S))) 14 (eJ G 25 O)) 15 (eJ G 5 D))) 124 [(0, .ref (ad 49)), (1, .int (nI i))] []) : V G B p l e R s m args below meth c 4 cells slots Q (nW ad N (va_up (va_up (va_up σ 13 (eJ G 25 S)) 14 (eJ G 25 O)) 15 (eJ G 5 D))) 60 [(0, .ref (ad 49)), (1, .int (nI i))] [] := by
  refine v_iconst (v := (0 : Int32)) C eX12_permute_60 (by decide) ?_
  refine v_istore_n (lv' := [(0, .ref (ad 49)), (1, .int (nI i)), (2, .int ((0 : Int32)))]) C eX12_permute_61 rfl (by decide) [1, 2, 0] rfl ?_
  refine v_forV (fun a => va_up (va_up (va_up σ 13 (eJ G 25 (itN (fun a S => itN (fun b S => vp_updL S (a + 5 * b) (S (a + 5 * b) ^^^ (D ((a + 4) % 5) ^^^ rlR (D ((a + 1) % 5)) 1))) 5 S) a S))) 14 (eJ G 25 O)) 15 (eJ G 5 D)) (fun a => [(0, .ref (ad 49)), (1, .int (nI i)), (2, .int (nI a))]) 5 ?_ ?_
  · refine v_iload_n C eX12_permute_62 rfl 2 rfl ?_
    refine v_iconst (v := (5 : Int32)) C eX12_permute_63 (by decide) ?_
    refine v_icmp_ge (tgt := 124) C eX12_permute_64 (by decide) (fun _ => ?_) (fun h => absurd (ix_le (a := 5) (b := 5) (rfl : (5 : Int32) = nI 5) (rfl : nI 5 = nI 5) (by omega) (by omega) (by omega)) h)
    refine v_pick (lv' := [(0, .ref (ad 49)), (1, .int (nI i))]) [0, 1] rfl ?_
    exact kk
  · intro a ha iha
    refine v_iload_n C eX12_permute_62 rfl 2 rfl ?_
    refine v_iconst (v := (5 : Int32)) C eX12_permute_63 (by decide) ?_
    refine v_icmp_ge (tgt := 124) C eX12_permute_64 (by decide) (fun h => absurd h (ix_nle (a := 5) (b := a) (rfl : (5 : Int32) = nI 5) (rfl : nI a = nI a) (by omega) (by omega) (by omega))) (fun _ => ?_)
    refine v_iconst (v := (0 : Int32)) C eX12_permute_67 (by decide) ?_
    refine v_istore_n (lv' := [(0, .ref (ad 49)), (1, .int (nI i)), (2, .int (nI a)), (3, .int ((0 : Int32)))]) C eX12_permute_68 rfl (by decide) [1, 2, 3, 0] rfl ?_
    refine v_forV (fun b => va_up (va_up (va_up σ 13 (eJ G 25 (itN (fun b S => vp_updL S (a + 5 * b) (S (a + 5 * b) ^^^ (D ((a + 4) % 5) ^^^ rlR (D ((a + 1) % 5)) 1))) b (itN (fun a S => itN (fun b S => vp_updL S (a + 5 * b) (S (a + 5 * b) ^^^ (D ((a + 4) % 5) ^^^ rlR (D ((a + 1) % 5)) 1))) 5 S) a S)))) 14 (eJ G 25 O)) 15 (eJ G 5 D)) (fun b => [(0, .ref (ad 49)), (1, .int (nI i)), (2, .int (nI a)), (3, .int (nI b))]) 5 ?_ ?_
    · refine v_iload_n C eX12_permute_69 rfl 3 rfl ?_
      refine v_iconst (v := (5 : Int32)) C eX12_permute_70 (by decide) ?_
      refine v_icmp_ge (tgt := 118) C eX12_permute_71 (by decide) (fun _ => ?_) (fun h => absurd (ix_le (a := 5) (b := 5) (rfl : (5 : Int32) = nI 5) (rfl : nI 5 = nI 5) (by omega) (by omega) (by omega)) h)
      refine v_iinc (lv' := [(0, .ref (ad 49)), (1, .int (nI i)), (2, .int (nI (a + 1))), (3, .int (nI 5))]) C eX12_permute_118 2 rfl (ix_inc _) (by decide) [1, 2, 0, 3] rfl ?_
      refine v_goto (tgt := 62) C eX12_permute_121 (by decide) ?_
      refine v_pick (lv' := [(0, .ref (ad 49)), (1, .int (nI i)), (2, .int (nI (a + 1)))]) [0, 1, 2] rfl ?_
      exact iha
    · intro b hb ihb
      refine v_iload_n C eX12_permute_69 rfl 3 rfl ?_
      refine v_iconst (v := (5 : Int32)) C eX12_permute_70 (by decide) ?_
      refine v_icmp_ge (tgt := 118) C eX12_permute_71 (by decide) (fun h => absurd h (ix_nle (a := 5) (b := b) (rfl : (5 : Int32) = nI 5) (rfl : nI b = nI b) (by omega) (by omega) (by omega))) (fun _ => ?_)
      refine v_aload_n C eX12_permute_74 rfl 0 rfl ?_
      refine n_get C I fX12_48_X12 eX12_permute_75 (hN 49 (by decide)) h49 rfl ?_
      refine v_iload_n C eX12_permute_78 rfl 2 rfl ?_
      refine v_iconst (v := (5 : Int32)) C eX12_permute_79 (by decide) ?_
      refine v_iload_n C eX12_permute_80 rfl 3 rfl ?_
      refine v_imul C eX12_permute_81 ?_
      refine v_iadd C eX12_permute_82 ?_
      refine v_dup2_11 C eX12_permute_83 rfl rfl ?_
      refine n_lald C I eX12_permute_84 (hN 13 (by decide)) rfl (a + (5 * b)) (ix_add (a := a) (b := 5 * b) (rfl : nI a = nI a) (ix_mul (a := 5) (b := b) (rfl : (5 : Int32) = nI 5) (rfl : nI b = nI b))) (by omega) (by decide) ?_
      refine v_aload_n C eX12_permute_85 rfl 0 rfl ?_
      refine n_get C I fX12_54_X12 eX12_permute_86 (hN 49 (by decide)) h49 rfl ?_
      refine v_iload_n C eX12_permute_89 rfl 2 rfl ?_
      refine v_iconst (v := (4 : Int32)) C eX12_permute_90 (by decide) ?_
      refine v_iadd C eX12_permute_91 ?_
      refine v_iconst (v := (5 : Int32)) C eX12_permute_92 (by decide) ?_
      refine v_irem C eX12_permute_93 (by decide) ?_
      refine n_lald C I eX12_permute_94 (hN 15 (by decide)) rfl ((a + 4) % 5) (ix_rem (a := a + 4) (d := 5) (ix_add (a := a) (b := 4) (rfl : nI a = nI a) (rfl : (4 : Int32) = nI 4)) (rfl : (5 : Int32) = nI 5) (by omega) (by omega) (by omega)) (by omega) (by decide) ?_
      refine v_aload_n C eX12_permute_95 rfl 0 rfl ?_
      refine n_get C I fX12_54_X12 eX12_permute_96 (hN 49 (by decide)) h49 rfl ?_
      refine v_iload_n C eX12_permute_99 rfl 2 rfl ?_
      refine v_iconst (v := (1 : Int32)) C eX12_permute_100 (by decide) ?_
      refine v_iadd C eX12_permute_101 ?_
      refine v_iconst (v := (5 : Int32)) C eX12_permute_102 (by decide) ?_
      refine v_irem C eX12_permute_103 (by decide) ?_
      refine n_lald C I eX12_permute_104 (hN 15 (by decide)) rfl ((a + 1) % 5) (ix_rem (a := a + 1) (d := 5) (ix_add (a := a) (b := 1) (rfl : nI a = nI a) (rfl : (1 : Int32) = nI 1)) (rfl : (5 : Int32) = nI 5) (by omega) (by omega) (by omega)) (by omega) (by decide) ?_
      refine v_iconst (v := (1 : Int32)) C eX12_permute_105 (by decide) ?_
      refine n_callS (av := [.long (D ((a + 1) % 5)), .int ((1 : Int32))]) (rest := [.long (D ((a + 4) % 5)), .long ((itN (fun b S => vp_updL S (a + 5 * b) (S (a + 5 * b) ^^^ (D ((a + 4) % 5) ^^^ rlR (D ((a + 1) % 5)) 1))) b (itN (fun a S => itN (fun b S => vp_updL S (a + 5 * b) (S (a + 5 * b) ^^^ (D ((a + 4) % 5) ^^^ rlR (D ((a + 1) % 5)) 1))) 5 S) a S)) (a + (5 * b))), .int ((nI a) + (((5 : Int32)) * (nI b))), .ref (ad 13)]) C mX12_215 (c_left (D ((a + 1) % 5)) ((1 : Int32))) hR hdd (by decide) ⟨hrc, hrs⟩ rfl rfl (Nat.le_of_ble_eq_true rfl) eX12_permute_106 (fun r σ' hp => ?_)
      obtain ⟨rfl, rfl⟩ := hp
      refine v_lxor C eX12_permute_109 ?_
      refine v_lxor C eX12_permute_110 ?_
      refine n_last C I eX12_permute_111 (hN 13 (by decide)) rfl (a + (5 * b)) (ix_add (a := a) (b := 5 * b) (rfl : nI a = nI a) (ix_mul (a := 5) (b := b) (rfl : (5 : Int32) = nI 5) (rfl : nI b = nI b))) (by omega) (by decide) ?_
      refine v_iinc (lv' := [(0, .ref (ad 49)), (1, .int (nI i)), (2, .int (nI a)), (3, .int (nI (b + 1)))]) C eX12_permute_112 3 rfl (ix_inc _) (by decide) [1, 2, 3, 0] rfl ?_
      refine v_goto (tgt := 69) C eX12_permute_115 (by decide) ?_
      refine v_eq (w' := nW ad N (va_up (va_up (va_up σ 13 (eJ G 25 (vp_updL (itN (fun b S => vp_updL S (a + 5 * b) (S (a + 5 * b) ^^^ (D ((a + 4) % 5) ^^^ rlR (D ((a + 1) % 5)) 1))) b (itN (fun a S => itN (fun b S => vp_updL S (a + 5 * b) (S (a + 5 * b) ^^^ (D ((a + 4) % 5) ^^^ rlR (D ((a + 1) % 5)) 1))) 5 S) a S)) (a + (5 * b)) (((itN (fun b S => vp_updL S (a + 5 * b) (S (a + 5 * b) ^^^ (D ((a + 4) % 5) ^^^ rlR (D ((a + 1) % 5)) 1))) b (itN (fun a S => itN (fun b S => vp_updL S (a + 5 * b) (S (a + 5 * b) ^^^ (D ((a + 4) % 5) ^^^ rlR (D ((a + 1) % 5)) 1))) 5 S) a S)) (a + (5 * b))) ^^^ ((D ((a + 4) % 5)) ^^^ (rlR (D ((a + 1) % 5)) ((1 : Int32)))))))) 14 (eJ G 25 O)) 15 (eJ G 5 D))) (congrArg (nW ad N) (n_extL [13, 14, 15] ⟨rfl, rfl, rfl, trivial⟩ (fun q h => by simp only [List.mem_cons, List.not_mem_nil, or_false, not_or] at h; simp [va_up, h]))) rfl rfl ?_
      exact ihb

set_option maxRecDepth 100000 in
set_option maxHeartbeats 4000000 in
theorem pm_3 (I : nI1 ad N) (hN : ∀ k, k < 74 → k < N) {σ : nS} {p : Program} {e : Env} {R : Room} {s : State} {m : MethodId} {args : Array Value} {below : List Frame} {meth : Method} {c : Code} {cells slots : Nat} {Q : State → Prop} (C : vC G B p m meth c cX12_permute 4 none s args yX12_permute.cls) {x : Nat → Int32} {t : Int64} {S O D : Nat → Int64} {T : Nat → Int32} {K : Nat → Int64} (h49 : σ 49 = eO 9 (mO ad x t)) (h11 : σ 11 = eI G 25 T) (h12 : σ 12 = eJ G 24 K) {i : Nat} (hi : i < 24) {d1 mc1 ms1 : Nat} (hR : R = vRm d1 mc1 ms1) (hdd : 0 + 1 ≤ d1) (hrc : cells + 0 ≤ mc1) (hrs : slots + 0 ≤ ms1) (kk : V G B p l e R s m args below meth c 4 cells slots Q (nW ad N (va_up (va_up (va_up σ 13 (eJ G 25 S)) 14 (eJ G 25 (pmRo T S O))) 15 (eJ G 5 D))) 191 [(0, .ref (ad 49)), (1, .int (nI i))] []) : V G B p l e R s m args below meth c 4 cells slots Q (nW ad N (va_up (va_up (va_up σ 13 (eJ G 25 S)) 14 (eJ G 25 O)) 15 (eJ G 5 D))) 124 [(0, .ref (ad 49)), (1, .int (nI i))] [] := by
  refine v_iconst (v := (0 : Int32)) C eX12_permute_124 (by decide) ?_
  refine v_istore_n (lv' := [(0, .ref (ad 49)), (1, .int (nI i)), (2, .int ((0 : Int32)))]) C eX12_permute_125 rfl (by decide) [1, 2, 0] rfl ?_
  refine v_forV (fun a => va_up (va_up (va_up σ 13 (eJ G 25 S)) 14 (eJ G 25 (itN (fun a o => itN (fun b o => vp_updL o (b + 5 * ((2 * a + 3 * b) % 5)) (rlR (S (a + 5 * b)) (T (a + 5 * b)))) 5 o) a O))) 15 (eJ G 5 D)) (fun a => [(0, .ref (ad 49)), (1, .int (nI i)), (2, .int (nI a))]) 5 ?_ ?_
  · refine v_iload_n C eX12_permute_126 rfl 2 rfl ?_
    refine v_iconst (v := (5 : Int32)) C eX12_permute_127 (by decide) ?_
    refine v_icmp_ge (tgt := 191) C eX12_permute_128 (by decide) (fun _ => ?_) (fun h => absurd (ix_le (a := 5) (b := 5) (rfl : (5 : Int32) = nI 5) (rfl : nI 5 = nI 5) (by omega) (by omega) (by omega)) h)
    refine v_pick (lv' := [(0, .ref (ad 49)), (1, .int (nI i))]) [0, 1] rfl ?_
    exact kk
  · intro a ha iha
    refine v_iload_n C eX12_permute_126 rfl 2 rfl ?_
    refine v_iconst (v := (5 : Int32)) C eX12_permute_127 (by decide) ?_
    refine v_icmp_ge (tgt := 191) C eX12_permute_128 (by decide) (fun h => absurd h (ix_nle (a := 5) (b := a) (rfl : (5 : Int32) = nI 5) (rfl : nI a = nI a) (by omega) (by omega) (by omega))) (fun _ => ?_)
    refine v_iconst (v := (0 : Int32)) C eX12_permute_131 (by decide) ?_
    refine v_istore_n (lv' := [(0, .ref (ad 49)), (1, .int (nI i)), (2, .int (nI a)), (3, .int ((0 : Int32)))]) C eX12_permute_132 rfl (by decide) [1, 2, 3, 0] rfl ?_
    refine v_forV (fun b => va_up (va_up (va_up σ 13 (eJ G 25 S)) 14 (eJ G 25 (itN (fun b o => vp_updL o (b + 5 * ((2 * a + 3 * b) % 5)) (rlR (S (a + 5 * b)) (T (a + 5 * b)))) b (itN (fun a o => itN (fun b o => vp_updL o (b + 5 * ((2 * a + 3 * b) % 5)) (rlR (S (a + 5 * b)) (T (a + 5 * b)))) 5 o) a O)))) 15 (eJ G 5 D)) (fun b => [(0, .ref (ad 49)), (1, .int (nI i)), (2, .int (nI a)), (3, .int (nI b))]) 5 ?_ ?_
    · refine v_iload_n C eX12_permute_133 rfl 3 rfl ?_
      refine v_iconst (v := (5 : Int32)) C eX12_permute_134 (by decide) ?_
      refine v_icmp_ge (tgt := 185) C eX12_permute_135 (by decide) (fun _ => ?_) (fun h => absurd (ix_le (a := 5) (b := 5) (rfl : (5 : Int32) = nI 5) (rfl : nI 5 = nI 5) (by omega) (by omega) (by omega)) h)
      refine v_iinc (lv' := [(0, .ref (ad 49)), (1, .int (nI i)), (2, .int (nI (a + 1))), (3, .int (nI 5))]) C eX12_permute_185 2 rfl (ix_inc _) (by decide) [1, 2, 0, 3] rfl ?_
      refine v_goto (tgt := 126) C eX12_permute_188 (by decide) ?_
      refine v_pick (lv' := [(0, .ref (ad 49)), (1, .int (nI i)), (2, .int (nI (a + 1)))]) [0, 1, 2] rfl ?_
      exact iha
    · intro b hb ihb
      refine v_iload_n C eX12_permute_133 rfl 3 rfl ?_
      refine v_iconst (v := (5 : Int32)) C eX12_permute_134 (by decide) ?_
      refine v_icmp_ge (tgt := 185) C eX12_permute_135 (by decide) (fun h => absurd h (ix_nle (a := 5) (b := b) (rfl : (5 : Int32) = nI 5) (rfl : nI b = nI b) (by omega) (by omega) (by omega))) (fun _ => ?_)
      refine v_aload_n C eX12_permute_138 rfl 0 rfl ?_
      refine n_get C I fX12_51_X12 eX12_permute_139 (hN 49 (by decide)) h49 rfl ?_
      refine v_iload_n C eX12_permute_142 rfl 3 rfl ?_
      refine v_iconst (v := (5 : Int32)) C eX12_permute_143 (by decide) ?_
      refine v_iconst (v := (2 : Int32)) C eX12_permute_144 (by decide) ?_
      refine v_iload_n C eX12_permute_145 rfl 2 rfl ?_
      refine v_imul C eX12_permute_146 ?_
      refine v_iconst (v := (3 : Int32)) C eX12_permute_147 (by decide) ?_
      refine v_iload_n C eX12_permute_148 rfl 3 rfl ?_
      refine v_imul C eX12_permute_149 ?_
      refine v_iadd C eX12_permute_150 ?_
      refine v_iconst (v := (5 : Int32)) C eX12_permute_151 (by decide) ?_
      refine v_irem C eX12_permute_152 (by decide) ?_
      refine v_imul C eX12_permute_153 ?_
      refine v_iadd C eX12_permute_154 ?_
      refine v_aload_n C eX12_permute_155 rfl 0 rfl ?_
      refine n_get C I fX12_48_X12 eX12_permute_156 (hN 49 (by decide)) h49 rfl ?_
      refine v_iload_n C eX12_permute_159 rfl 2 rfl ?_
      refine v_iconst (v := (5 : Int32)) C eX12_permute_160 (by decide) ?_
      refine v_iload_n C eX12_permute_161 rfl 3 rfl ?_
      refine v_imul C eX12_permute_162 ?_
      refine v_iadd C eX12_permute_163 ?_
      refine n_lald C I eX12_permute_164 (hN 13 (by decide)) rfl (a + (5 * b)) (ix_add (a := a) (b := 5 * b) (rfl : nI a = nI a) (ix_mul (a := 5) (b := b) (rfl : (5 : Int32) = nI 5) (rfl : nI b = nI b))) (by omega) (by decide) ?_
      refine v_aload_n C eX12_permute_165 rfl 0 rfl ?_
      refine n_get C I fX12_42_X12 eX12_permute_166 (hN 49 (by decide)) h49 rfl ?_
      refine v_iload_n C eX12_permute_169 rfl 2 rfl ?_
      refine v_iconst (v := (5 : Int32)) C eX12_permute_170 (by decide) ?_
      refine v_iload_n C eX12_permute_171 rfl 3 rfl ?_
      refine v_imul C eX12_permute_172 ?_
      refine v_iadd C eX12_permute_173 ?_
      refine n_iald C I eX12_permute_174 (hN 11 (by decide)) h11 (a + (5 * b)) (ix_add (a := a) (b := 5 * b) (rfl : nI a = nI a) (ix_mul (a := 5) (b := b) (rfl : (5 : Int32) = nI 5) (rfl : nI b = nI b))) (by omega) (by decide) ?_
      refine n_callS (av := [.long (S (a + (5 * b))), .int (T (a + (5 * b)))]) (rest := [.int ((nI b) + (((5 : Int32)) * (((((2 : Int32)) * (nI a)) + (((3 : Int32)) * (nI b))) - ((((2 : Int32)) * (nI a)) + (((3 : Int32)) * (nI b))) / ((5 : Int32)) * ((5 : Int32))))), .ref (ad 14)]) C mX12_215 (c_left (S (a + (5 * b))) (T (a + (5 * b)))) hR hdd (by decide) ⟨hrc, hrs⟩ rfl rfl (Nat.le_of_ble_eq_true rfl) eX12_permute_175 (fun r σ' hp => ?_)
      obtain ⟨rfl, rfl⟩ := hp
      refine n_last C I eX12_permute_178 (hN 14 (by decide)) rfl (b + (5 * (((2 * a) + (3 * b)) % 5))) (ix_add (a := b) (b := 5 * (((2 * a) + (3 * b)) % 5)) (rfl : nI b = nI b) (ix_mul (a := 5) (b := ((2 * a) + (3 * b)) % 5) (rfl : (5 : Int32) = nI 5) (ix_rem (a := (2 * a) + (3 * b)) (d := 5) (ix_add (a := 2 * a) (b := 3 * b) (ix_mul (a := 2) (b := a) (rfl : (2 : Int32) = nI 2) (rfl : nI a = nI a)) (ix_mul (a := 3) (b := b) (rfl : (3 : Int32) = nI 3) (rfl : nI b = nI b))) (rfl : (5 : Int32) = nI 5) (by omega) (by omega) (by omega)))) (by omega) (by decide) ?_
      refine v_iinc (lv' := [(0, .ref (ad 49)), (1, .int (nI i)), (2, .int (nI a)), (3, .int (nI (b + 1)))]) C eX12_permute_179 3 rfl (ix_inc _) (by decide) [1, 2, 3, 0] rfl ?_
      refine v_goto (tgt := 133) C eX12_permute_182 (by decide) ?_
      refine v_eq (w' := nW ad N (va_up (va_up (va_up σ 13 (eJ G 25 S)) 14 (eJ G 25 (vp_updL (itN (fun b o => vp_updL o (b + 5 * ((2 * a + 3 * b) % 5)) (rlR (S (a + 5 * b)) (T (a + 5 * b)))) b (itN (fun a o => itN (fun b o => vp_updL o (b + 5 * ((2 * a + 3 * b) % 5)) (rlR (S (a + 5 * b)) (T (a + 5 * b)))) 5 o) a O)) (b + (5 * (((2 * a) + (3 * b)) % 5))) (rlR (S (a + (5 * b))) (T (a + (5 * b))))))) 15 (eJ G 5 D))) (congrArg (nW ad N) (n_extL [13, 14, 15] ⟨rfl, rfl, rfl, trivial⟩ (fun q h => by simp only [List.mem_cons, List.not_mem_nil, or_false, not_or] at h; simp [va_up, h]))) rfl rfl ?_
      exact ihb

set_option maxRecDepth 100000 in
set_option maxHeartbeats 4000000 in
theorem pm_4 (I : nI1 ad N) (hN : ∀ k, k < 74 → k < N) {σ : nS} {p : Program} {e : Env} {R : Room} {s : State} {m : MethodId} {args : Array Value} {below : List Frame} {meth : Method} {c : Code} {cells slots : Nat} {Q : State → Prop} (C : vC G B p m meth c cX12_permute 4 none s args yX12_permute.cls) {x : Nat → Int32} {t : Int64} {S O D : Nat → Int64} {T : Nat → Int32} {K : Nat → Int64} (h49 : σ 49 = eO 9 (mO ad x t)) (h11 : σ 11 = eI G 25 T) (h12 : σ 12 = eJ G 24 K) {i : Nat} (hi : i < 24) (kk : V G B p l e R s m args below meth c 4 cells slots Q (nW ad N (va_up (va_up (va_up σ 13 (eJ G 25 (pmCh O S))) 14 (eJ G 25 O)) 15 (eJ G 5 D))) 271 [(0, .ref (ad 49)), (1, .int (nI i))] []) : V G B p l e R s m args below meth c 4 cells slots Q (nW ad N (va_up (va_up (va_up σ 13 (eJ G 25 S)) 14 (eJ G 25 O)) 15 (eJ G 5 D))) 191 [(0, .ref (ad 49)), (1, .int (nI i))] [] := by
  refine v_iconst (v := (0 : Int32)) C eX12_permute_191 (by decide) ?_
  refine v_istore_n (lv' := [(0, .ref (ad 49)), (1, .int (nI i)), (2, .int ((0 : Int32)))]) C eX12_permute_192 rfl (by decide) [1, 2, 0] rfl ?_
  refine v_forV (fun a => va_up (va_up (va_up σ 13 (eJ G 25 (itN (fun a S => itN (fun b S => vp_updL S (a + 5 * b) (O (a + 5 * b) ^^^ ((O ((a + 1) % 5 + 5 * b) ^^^ (-1)) &&& O ((a + 2) % 5 + 5 * b)))) 5 S) a S))) 14 (eJ G 25 O)) 15 (eJ G 5 D)) (fun a => [(0, .ref (ad 49)), (1, .int (nI i)), (2, .int (nI a))]) 5 ?_ ?_
  · refine v_iload_n C eX12_permute_193 rfl 2 rfl ?_
    refine v_iconst (v := (5 : Int32)) C eX12_permute_194 (by decide) ?_
    refine v_icmp_ge (tgt := 271) C eX12_permute_195 (by decide) (fun _ => ?_) (fun h => absurd (ix_le (a := 5) (b := 5) (rfl : (5 : Int32) = nI 5) (rfl : nI 5 = nI 5) (by omega) (by omega) (by omega)) h)
    refine v_pick (lv' := [(0, .ref (ad 49)), (1, .int (nI i))]) [0, 1] rfl ?_
    exact kk
  · intro a ha iha
    refine v_iload_n C eX12_permute_193 rfl 2 rfl ?_
    refine v_iconst (v := (5 : Int32)) C eX12_permute_194 (by decide) ?_
    refine v_icmp_ge (tgt := 271) C eX12_permute_195 (by decide) (fun h => absurd h (ix_nle (a := 5) (b := a) (rfl : (5 : Int32) = nI 5) (rfl : nI a = nI a) (by omega) (by omega) (by omega))) (fun _ => ?_)
    refine v_iconst (v := (0 : Int32)) C eX12_permute_198 (by decide) ?_
    refine v_istore_n (lv' := [(0, .ref (ad 49)), (1, .int (nI i)), (2, .int (nI a)), (3, .int ((0 : Int32)))]) C eX12_permute_199 rfl (by decide) [1, 2, 3, 0] rfl ?_
    refine v_forV (fun b => va_up (va_up (va_up σ 13 (eJ G 25 (itN (fun b S => vp_updL S (a + 5 * b) (O (a + 5 * b) ^^^ ((O ((a + 1) % 5 + 5 * b) ^^^ (-1)) &&& O ((a + 2) % 5 + 5 * b)))) b (itN (fun a S => itN (fun b S => vp_updL S (a + 5 * b) (O (a + 5 * b) ^^^ ((O ((a + 1) % 5 + 5 * b) ^^^ (-1)) &&& O ((a + 2) % 5 + 5 * b)))) 5 S) a S)))) 14 (eJ G 25 O)) 15 (eJ G 5 D)) (fun b => [(0, .ref (ad 49)), (1, .int (nI i)), (2, .int (nI a)), (3, .int (nI b))]) 5 ?_ ?_
    · refine v_iload_n C eX12_permute_200 rfl 3 rfl ?_
      refine v_iconst (v := (5 : Int32)) C eX12_permute_201 (by decide) ?_
      refine v_icmp_ge (tgt := 265) C eX12_permute_202 (by decide) (fun _ => ?_) (fun h => absurd (ix_le (a := 5) (b := 5) (rfl : (5 : Int32) = nI 5) (rfl : nI 5 = nI 5) (by omega) (by omega) (by omega)) h)
      refine v_iinc (lv' := [(0, .ref (ad 49)), (1, .int (nI i)), (2, .int (nI (a + 1))), (3, .int (nI 5))]) C eX12_permute_265 2 rfl (ix_inc _) (by decide) [1, 2, 0, 3] rfl ?_
      refine v_goto (tgt := 193) C eX12_permute_268 (by decide) ?_
      refine v_pick (lv' := [(0, .ref (ad 49)), (1, .int (nI i)), (2, .int (nI (a + 1)))]) [0, 1, 2] rfl ?_
      exact iha
    · intro b hb ihb
      refine v_iload_n C eX12_permute_200 rfl 3 rfl ?_
      refine v_iconst (v := (5 : Int32)) C eX12_permute_201 (by decide) ?_
      refine v_icmp_ge (tgt := 265) C eX12_permute_202 (by decide) (fun h => absurd h (ix_nle (a := 5) (b := b) (rfl : (5 : Int32) = nI 5) (rfl : nI b = nI b) (by omega) (by omega) (by omega))) (fun _ => ?_)
      refine v_aload_n C eX12_permute_205 rfl 0 rfl ?_
      refine n_get C I fX12_48_X12 eX12_permute_206 (hN 49 (by decide)) h49 rfl ?_
      refine v_iload_n C eX12_permute_209 rfl 2 rfl ?_
      refine v_iconst (v := (5 : Int32)) C eX12_permute_210 (by decide) ?_
      refine v_iload_n C eX12_permute_211 rfl 3 rfl ?_
      refine v_imul C eX12_permute_212 ?_
      refine v_iadd C eX12_permute_213 ?_
      refine v_aload_n C eX12_permute_214 rfl 0 rfl ?_
      refine n_get C I fX12_51_X12 eX12_permute_215 (hN 49 (by decide)) h49 rfl ?_
      refine v_iload_n C eX12_permute_218 rfl 2 rfl ?_
      refine v_iconst (v := (5 : Int32)) C eX12_permute_219 (by decide) ?_
      refine v_iload_n C eX12_permute_220 rfl 3 rfl ?_
      refine v_imul C eX12_permute_221 ?_
      refine v_iadd C eX12_permute_222 ?_
      refine n_lald C I eX12_permute_223 (hN 14 (by decide)) rfl (a + (5 * b)) (ix_add (a := a) (b := 5 * b) (rfl : nI a = nI a) (ix_mul (a := 5) (b := b) (rfl : (5 : Int32) = nI 5) (rfl : nI b = nI b))) (by omega) (by decide) ?_
      refine v_aload_n C eX12_permute_224 rfl 0 rfl ?_
      refine n_get C I fX12_51_X12 eX12_permute_225 (hN 49 (by decide)) h49 rfl ?_
      refine v_iload_n C eX12_permute_228 rfl 2 rfl ?_
      refine v_iconst (v := (1 : Int32)) C eX12_permute_229 (by decide) ?_
      refine v_iadd C eX12_permute_230 ?_
      refine v_iconst (v := (5 : Int32)) C eX12_permute_231 (by decide) ?_
      refine v_irem C eX12_permute_232 (by decide) ?_
      refine v_iconst (v := (5 : Int32)) C eX12_permute_233 (by decide) ?_
      refine v_iload_n C eX12_permute_234 rfl 3 rfl ?_
      refine v_imul C eX12_permute_235 ?_
      refine v_iadd C eX12_permute_236 ?_
      refine n_lald C I eX12_permute_237 (hN 14 (by decide)) rfl (((a + 1) % 5) + (5 * b)) (ix_add (a := (a + 1) % 5) (b := 5 * b) (ix_rem (a := a + 1) (d := 5) (ix_add (a := a) (b := 1) (rfl : nI a = nI a) (rfl : (1 : Int32) = nI 1)) (rfl : (5 : Int32) = nI 5) (by omega) (by omega) (by omega)) (ix_mul (a := 5) (b := b) (rfl : (5 : Int32) = nI 5) (rfl : nI b = nI b))) (by omega) (by decide) ?_
      refine v_ldc2 (v := (-1 : Int64)) C eX12_permute_238 vw_1154 ?_
      refine v_lxor C eX12_permute_241 ?_
      refine v_aload_n C eX12_permute_242 rfl 0 rfl ?_
      refine n_get C I fX12_51_X12 eX12_permute_243 (hN 49 (by decide)) h49 rfl ?_
      refine v_iload_n C eX12_permute_246 rfl 2 rfl ?_
      refine v_iconst (v := (2 : Int32)) C eX12_permute_247 (by decide) ?_
      refine v_iadd C eX12_permute_248 ?_
      refine v_iconst (v := (5 : Int32)) C eX12_permute_249 (by decide) ?_
      refine v_irem C eX12_permute_250 (by decide) ?_
      refine v_iconst (v := (5 : Int32)) C eX12_permute_251 (by decide) ?_
      refine v_iload_n C eX12_permute_252 rfl 3 rfl ?_
      refine v_imul C eX12_permute_253 ?_
      refine v_iadd C eX12_permute_254 ?_
      refine n_lald C I eX12_permute_255 (hN 14 (by decide)) rfl (((a + 2) % 5) + (5 * b)) (ix_add (a := (a + 2) % 5) (b := 5 * b) (ix_rem (a := a + 2) (d := 5) (ix_add (a := a) (b := 2) (rfl : nI a = nI a) (rfl : (2 : Int32) = nI 2)) (rfl : (5 : Int32) = nI 5) (by omega) (by omega) (by omega)) (ix_mul (a := 5) (b := b) (rfl : (5 : Int32) = nI 5) (rfl : nI b = nI b))) (by omega) (by decide) ?_
      refine v_land C eX12_permute_256 ?_
      refine v_lxor C eX12_permute_257 ?_
      refine n_last C I eX12_permute_258 (hN 13 (by decide)) rfl (a + (5 * b)) (ix_add (a := a) (b := 5 * b) (rfl : nI a = nI a) (ix_mul (a := 5) (b := b) (rfl : (5 : Int32) = nI 5) (rfl : nI b = nI b))) (by omega) (by decide) ?_
      refine v_iinc (lv' := [(0, .ref (ad 49)), (1, .int (nI i)), (2, .int (nI a)), (3, .int (nI (b + 1)))]) C eX12_permute_259 3 rfl (ix_inc _) (by decide) [1, 2, 3, 0] rfl ?_
      refine v_goto (tgt := 200) C eX12_permute_262 (by decide) ?_
      refine v_eq (w' := nW ad N (va_up (va_up (va_up σ 13 (eJ G 25 (vp_updL (itN (fun b S => vp_updL S (a + 5 * b) (O (a + 5 * b) ^^^ ((O ((a + 1) % 5 + 5 * b) ^^^ (-1)) &&& O ((a + 2) % 5 + 5 * b)))) b (itN (fun a S => itN (fun b S => vp_updL S (a + 5 * b) (O (a + 5 * b) ^^^ ((O ((a + 1) % 5 + 5 * b) ^^^ (-1)) &&& O ((a + 2) % 5 + 5 * b)))) 5 S) a S)) (a + (5 * b)) ((O (a + (5 * b))) ^^^ (((O (((a + 1) % 5) + (5 * b))) ^^^ ((-1 : Int64))) &&& (O (((a + 2) % 5) + (5 * b)))))))) 14 (eJ G 25 O)) 15 (eJ G 5 D))) (congrArg (nW ad N) (n_extL [13, 14, 15] ⟨rfl, rfl, rfl, trivial⟩ (fun q h => by simp only [List.mem_cons, List.not_mem_nil, or_false, not_or] at h; simp [va_up, h]))) rfl rfl ?_
      exact ihb

set_option maxRecDepth 100000 in
set_option maxHeartbeats 4000000 in
theorem c_permute (I : nI1 ad N) (hN : ∀ k, k < 74 → k < N) {σ : nS} {x : Nat → Int32} {t : Int64} {S O D : Nat → Int64} {T : Nat → Int32} {K : Nat → Int64} (h49 : σ 49 = eO 9 (mO ad x t)) (h13 : σ 13 = eJ G 25 S) (h14 : σ 14 = eJ G 25 O) (h15 : σ 15 = eJ G 5 D) (h11 : σ 11 = eI G 25 T) (h12 : σ 12 = eJ G 24 K) : nOk G B l ad N yX12_permute cX12_permute 4 none 1 0 0 [.ref (ad 49)] σ (fun r σ' => r = none ∧ σ' = va_up (va_up (va_up σ 13 (eJ G 25 (itN (pmR T K) 24 (S, O, D)).1)) 14 (eJ G 25 (itN (pmR T K) 24 (S, O, D)).2.1)) 15 (eJ G 5 (itN (pmR T K) 24 (S, O, D)).2.2)) := by
  refine vOk.of (by decide +kernel) (Nat.le_of_ble_eq_true rfl) ?_
  intro p e s m args below meth c C
  refine v_eq (lv' := [(0, .ref (ad 49))]) rfl rfl rfl ?_
  refine v_iconst (v := (0 : Int32)) C eX12_permute_0 (by decide) ?_
  refine v_istore_n (lv' := [(0, .ref (ad 49)), (1, .int ((0 : Int32)))]) C eX12_permute_1 rfl (by decide) [1, 0] rfl ?_
  refine v_eq (w' := nW ad N (va_up (va_up (va_up σ 13 (eJ G 25 S)) 14 (eJ G 25 O)) 15 (eJ G 5 D))) (congrArg (nW ad N) (n_extL [13, 14, 15] ⟨h13, h14, h15, trivial⟩ (fun q h => by simp only [List.mem_cons, List.not_mem_nil, or_false, not_or] at h; simp [va_up, h]))) rfl rfl ?_
  refine v_forV (fun i => va_up (va_up (va_up σ 13 (eJ G 25 ((itN (pmR T K) i (S, O, D)).1))) 14 (eJ G 25 ((itN (pmR T K) i (S, O, D)).2.1))) 15 (eJ G 5 ((itN (pmR T K) i (S, O, D)).2.2))) (fun i => [(0, .ref (ad 49)), (1, .int (nI i))]) 24 ?_ ?_
  · refine v_iload_n C eX12_permute_2 rfl 1 rfl ?_
    refine v_bipush (v := (24 : Int32)) C eX12_permute_3 (by decide) ?_
    refine v_icmp_ge (tgt := 292) C eX12_permute_5 (by decide) (fun _ => ?_) (fun h => absurd (ix_le (a := 24) (b := 24) (rfl : (24 : Int32) = nI 24) (rfl : nI 24 = nI 24) (by omega) (by omega) (by omega)) h)
    exact n_vret C rfl eX12_permute_292 ⟨rfl, rfl⟩
  · intro i hi ih
    refine v_iload_n C eX12_permute_2 rfl 1 rfl ?_
    refine v_bipush (v := (24 : Int32)) C eX12_permute_3 (by decide) ?_
    refine v_icmp_ge (tgt := 292) C eX12_permute_5 (by decide) (fun h => absurd h (ix_nle (a := 24) (b := i) (rfl : (24 : Int32) = nI 24) (rfl : nI i = nI i) (by omega) (by omega) (by omega))) (fun _ => ?_)
    rw [show itN (pmR T K) (i + 1) (S, O, D) = pmR T K i (itN (pmR T K) i (S, O, D)) from rfl] at ih
    generalize itN (pmR T K) i (S, O, D) = q at ih ⊢
    obtain ⟨S, O, D⟩ := q
    refine pm_1 I hN C h49 h11 h12 hi ?_
    refine pm_2 I hN C h49 h11 h12 hi rfl (by decide) (by decide) (by decide) ?_
    refine pm_3 I hN C h49 h11 h12 hi rfl (by decide) (by decide) (by decide) ?_
    refine pm_4 I hN C h49 h11 h12 hi ?_
    refine v_aload_n C eX12_permute_271 rfl 0 rfl ?_
    refine n_get C I fX12_48_X12 eX12_permute_272 (hN 49 (by decide)) h49 rfl ?_
    refine v_iconst (v := (0 : Int32)) C eX12_permute_275 (by decide) ?_
    refine v_dup2_11 C eX12_permute_276 rfl rfl ?_
    refine n_lald C I eX12_permute_277 (hN 13 (by decide)) rfl 0 (rfl : (0 : Int32) = nI 0) (by omega) (by decide) ?_
    refine v_aload_n C eX12_permute_278 rfl 0 rfl ?_
    refine n_get C I fX12_45_X12 eX12_permute_279 (hN 49 (by decide)) h49 rfl ?_
    refine v_iload_n C eX12_permute_282 rfl 1 rfl ?_
    refine n_lald C I eX12_permute_283 (hN 12 (by decide)) h12 i (rfl : nI i = nI i) (by omega) (by decide) ?_
    refine v_lxor C eX12_permute_284 ?_
    refine n_last C I eX12_permute_285 (hN 13 (by decide)) rfl 0 (rfl : (0 : Int32) = nI 0) (by omega) (by decide) ?_
    refine v_iinc (lv' := [(0, .ref (ad 49)), (1, .int (nI (i + 1)))]) C eX12_permute_286 1 rfl (ix_inc _) (by decide) [1, 0] rfl ?_
    refine v_goto (tgt := 2) C eX12_permute_289 (by decide) ?_
    refine v_eq (w' := nW ad N (va_up (va_up (va_up σ 13 (eJ G 25 (vp_updL (pmCh (pmRo T (pmTh (pmC S D) S) O) (pmTh (pmC S D) S)) 0 (((pmCh (pmRo T (pmTh (pmC S D) S) O) (pmTh (pmC S D) S)) 0) ^^^ (K i))))) 14 (eJ G 25 (pmRo T (pmTh (pmC S D) S) O))) 15 (eJ G 5 (pmC S D)))) (congrArg (nW ad N) (n_extL [13, 14, 15] ⟨rfl, rfl, rfl, trivial⟩ (fun q h => by simp only [List.mem_cons, List.not_mem_nil, or_false, not_or] at h; simp [va_up, h]))) rfl rfl ?_
    exact ih

end M1
end
section
theorem eX12_compress64_0 : vD cX12_compress64 0 (.iconst 0) 1 1 := ⟨by decide +kernel, rfl⟩
theorem eX12_compress64_1 : vD cX12_compress64 1 (.istore_n 1) 1 2 := ⟨by decide +kernel, rfl⟩
theorem eX12_compress64_2 : vD cX12_compress64 2 (.iload_n 1) 1 3 := ⟨by decide +kernel, rfl⟩
theorem eX12_compress64_3 : vD cX12_compress64 3 (.bipush 16) 2 5 := ⟨by decide +kernel, rfl⟩
theorem eX12_compress64_5 : vD cX12_compress64 5 (.if_icmp .ge 62) 3 8 := ⟨by decide +kernel, rfl⟩
theorem eX12_compress64_8 : vD cX12_compress64 8 (.aload_n 0) 1 9 := ⟨by decide +kernel, rfl⟩
theorem eX12_compress64_9 : vD cX12_compress64 9 (.getfield 57) 3 12 := ⟨by decide +kernel, rfl⟩
theorem eX12_compress64_12 : vD cX12_compress64 12 (.iload_n 1) 1 13 := ⟨by decide +kernel, rfl⟩
theorem eX12_compress64_13 : vD cX12_compress64 13 (.lconst 0) 1 14 := ⟨by decide +kernel, rfl⟩
theorem eX12_compress64_14 : vD cX12_compress64 14 .lastore 1 15 := ⟨by decide +kernel, rfl⟩
theorem eX12_compress64_15 : vD cX12_compress64 15 (.iconst 0) 1 16 := ⟨by decide +kernel, rfl⟩
theorem eX12_compress64_16 : vD cX12_compress64 16 (.istore_n 2) 1 17 := ⟨by decide +kernel, rfl⟩
theorem eX12_compress64_17 : vD cX12_compress64 17 (.iload_n 2) 1 18 := ⟨by decide +kernel, rfl⟩
theorem eX12_compress64_18 : vD cX12_compress64 18 (.bipush 8) 2 20 := ⟨by decide +kernel, rfl⟩
theorem eX12_compress64_20 : vD cX12_compress64 20 (.if_icmp .ge 41) 3 23 := ⟨by decide +kernel, rfl⟩
theorem eX12_compress64_23 : vD cX12_compress64 23 (.aload_n 0) 1 24 := ⟨by decide +kernel, rfl⟩
theorem eX12_compress64_24 : vD cX12_compress64 24 (.getfield 57) 3 27 := ⟨by decide +kernel, rfl⟩
theorem eX12_compress64_27 : vD cX12_compress64 27 (.iload_n 1) 1 28 := ⟨by decide +kernel, rfl⟩
theorem eX12_compress64_28 : vD cX12_compress64 28 (.aload_n 0) 1 29 := ⟨by decide +kernel, rfl⟩
theorem eX12_compress64_29 : vD cX12_compress64 29 (.getfield 57) 3 32 := ⟨by decide +kernel, rfl⟩
theorem eX12_compress64_32 : vD cX12_compress64 32 (.iload_n 1) 1 33 := ⟨by decide +kernel, rfl⟩
theorem eX12_compress64_33 : vD cX12_compress64 33 .laload 1 34 := ⟨by decide +kernel, rfl⟩
theorem eX12_compress64_34 : vD cX12_compress64 34 (.bipush 8) 2 36 := ⟨by decide +kernel, rfl⟩
theorem eX12_compress64_36 : vD cX12_compress64 36 .lshl 1 37 := ⟨by decide +kernel, rfl⟩
theorem eX12_compress64_37 : vD cX12_compress64 37 (.aload_n 0) 1 38 := ⟨by decide +kernel, rfl⟩
theorem eX12_compress64_38 : vD cX12_compress64 38 (.getfield 60) 3 41 := ⟨by decide +kernel, rfl⟩
theorem eX12_compress64_41 : vD cX12_compress64 41 (.bipush 8) 2 43 := ⟨by decide +kernel, rfl⟩
theorem eX12_compress64_43 : vD cX12_compress64 43 (.iload_n 1) 1 44 := ⟨by decide +kernel, rfl⟩
theorem eX12_compress64_44 : vD cX12_compress64 44 .imul 1 45 := ⟨by decide +kernel, rfl⟩
theorem eX12_compress64_45 : vD cX12_compress64 45 (.iload_n 2) 1 46 := ⟨by decide +kernel, rfl⟩
theorem eX12_compress64_46 : vD cX12_compress64 46 .iadd 1 47 := ⟨by decide +kernel, rfl⟩
theorem eX12_compress64_47 : vD cX12_compress64 47 .baload 1 48 := ⟨by decide +kernel, rfl⟩
theorem eX12_compress64_48 : vD cX12_compress64 48 .i2l 1 49 := ⟨by decide +kernel, rfl⟩
theorem eX12_compress64_49 : vD cX12_compress64 49 (.ldc2_w 142) 3 52 := ⟨by decide +kernel, rfl⟩
theorem eX12_compress64_52 : vD cX12_compress64 52 .land 1 53 := ⟨by decide +kernel, rfl⟩
theorem eX12_compress64_53 : vD cX12_compress64 53 .lor 1 54 := ⟨by decide +kernel, rfl⟩
theorem eX12_compress64_54 : vD cX12_compress64 54 .lastore 1 55 := ⟨by decide +kernel, rfl⟩
theorem eX12_compress64_55 : vD cX12_compress64 55 (.iinc 2 1) 3 58 := ⟨by decide +kernel, rfl⟩
theorem eX12_compress64_58 : vD cX12_compress64 58 (.goto (-41)) 3 61 := ⟨by decide +kernel, rfl⟩
theorem eX12_compress64_61 : vD cX12_compress64 61 (.iinc 1 1) 3 64 := ⟨by decide +kernel, rfl⟩
theorem eX12_compress64_64 : vD cX12_compress64 64 (.goto (-62)) 3 67 := ⟨by decide +kernel, rfl⟩
theorem eX12_compress64_67 : vD cX12_compress64 67 (.bipush 16) 2 69 := ⟨by decide +kernel, rfl⟩
theorem eX12_compress64_69 : vD cX12_compress64 69 (.istore_n 1) 1 70 := ⟨by decide +kernel, rfl⟩
theorem eX12_compress64_70 : vD cX12_compress64 70 (.iload_n 1) 1 71 := ⟨by decide +kernel, rfl⟩
theorem eX12_compress64_71 : vD cX12_compress64 71 (.bipush 80) 2 73 := ⟨by decide +kernel, rfl⟩
theorem eX12_compress64_73 : vD cX12_compress64 73 (.if_icmp .ge 94) 3 76 := ⟨by decide +kernel, rfl⟩
theorem eX12_compress64_76 : vD cX12_compress64 76 (.aload_n 0) 1 77 := ⟨by decide +kernel, rfl⟩
theorem eX12_compress64_77 : vD cX12_compress64 77 (.getfield 57) 3 80 := ⟨by decide +kernel, rfl⟩
theorem eX12_compress64_80 : vD cX12_compress64 80 (.iload_n 1) 1 81 := ⟨by decide +kernel, rfl⟩
theorem eX12_compress64_81 : vD cX12_compress64 81 (.iconst 2) 1 82 := ⟨by decide +kernel, rfl⟩
theorem eX12_compress64_82 : vD cX12_compress64 82 .isub 1 83 := ⟨by decide +kernel, rfl⟩
theorem eX12_compress64_83 : vD cX12_compress64 83 .laload 1 84 := ⟨by decide +kernel, rfl⟩
theorem eX12_compress64_84 : vD cX12_compress64 84 (.lstore_n 2) 1 85 := ⟨by decide +kernel, rfl⟩
theorem eX12_compress64_85 : vD cX12_compress64 85 (.aload_n 0) 1 86 := ⟨by decide +kernel, rfl⟩
theorem eX12_compress64_86 : vD cX12_compress64 86 (.getfield 57) 3 89 := ⟨by decide +kernel, rfl⟩
theorem eX12_compress64_89 : vD cX12_compress64 89 (.iload_n 1) 1 90 := ⟨by decide +kernel, rfl⟩
theorem eX12_compress64_90 : vD cX12_compress64 90 (.bipush 15) 2 92 := ⟨by decide +kernel, rfl⟩
theorem eX12_compress64_92 : vD cX12_compress64 92 .isub 1 93 := ⟨by decide +kernel, rfl⟩
theorem eX12_compress64_93 : vD cX12_compress64 93 .laload 1 94 := ⟨by decide +kernel, rfl⟩
theorem eX12_compress64_94 : vD cX12_compress64 94 (.lstore 4) 2 96 := ⟨by decide +kernel, rfl⟩
theorem eX12_compress64_96 : vD cX12_compress64 96 (.aload_n 0) 1 97 := ⟨by decide +kernel, rfl⟩
theorem eX12_compress64_97 : vD cX12_compress64 97 (.getfield 57) 3 100 := ⟨by decide +kernel, rfl⟩
theorem eX12_compress64_100 : vD cX12_compress64 100 (.iload_n 1) 1 101 := ⟨by decide +kernel, rfl⟩
theorem eX12_compress64_101 : vD cX12_compress64 101 (.lload_n 2) 1 102 := ⟨by decide +kernel, rfl⟩
theorem eX12_compress64_102 : vD cX12_compress64 102 (.bipush 19) 2 104 := ⟨by decide +kernel, rfl⟩
theorem eX12_compress64_104 : vD cX12_compress64 104 (.invokestatic 221) 3 107 := ⟨by decide +kernel, rfl⟩
theorem eX12_compress64_107 : vD cX12_compress64 107 (.lload_n 2) 1 108 := ⟨by decide +kernel, rfl⟩
theorem eX12_compress64_108 : vD cX12_compress64 108 (.bipush 61) 2 110 := ⟨by decide +kernel, rfl⟩
theorem eX12_compress64_110 : vD cX12_compress64 110 (.invokestatic 221) 3 113 := ⟨by decide +kernel, rfl⟩
theorem eX12_compress64_113 : vD cX12_compress64 113 .lxor 1 114 := ⟨by decide +kernel, rfl⟩
theorem eX12_compress64_114 : vD cX12_compress64 114 (.lload_n 2) 1 115 := ⟨by decide +kernel, rfl⟩
theorem eX12_compress64_115 : vD cX12_compress64 115 (.bipush 6) 2 117 := ⟨by decide +kernel, rfl⟩
theorem eX12_compress64_117 : vD cX12_compress64 117 .lushr 1 118 := ⟨by decide +kernel, rfl⟩
theorem eX12_compress64_118 : vD cX12_compress64 118 .lxor 1 119 := ⟨by decide +kernel, rfl⟩
theorem eX12_compress64_119 : vD cX12_compress64 119 (.aload_n 0) 1 120 := ⟨by decide +kernel, rfl⟩
theorem eX12_compress64_120 : vD cX12_compress64 120 (.getfield 57) 3 123 := ⟨by decide +kernel, rfl⟩
theorem eX12_compress64_123 : vD cX12_compress64 123 (.iload_n 1) 1 124 := ⟨by decide +kernel, rfl⟩
theorem eX12_compress64_124 : vD cX12_compress64 124 (.bipush 7) 2 126 := ⟨by decide +kernel, rfl⟩
theorem eX12_compress64_126 : vD cX12_compress64 126 .isub 1 127 := ⟨by decide +kernel, rfl⟩
theorem eX12_compress64_127 : vD cX12_compress64 127 .laload 1 128 := ⟨by decide +kernel, rfl⟩
theorem eX12_compress64_128 : vD cX12_compress64 128 .ladd 1 129 := ⟨by decide +kernel, rfl⟩
theorem eX12_compress64_129 : vD cX12_compress64 129 (.lload 4) 2 131 := ⟨by decide +kernel, rfl⟩
theorem eX12_compress64_131 : vD cX12_compress64 131 (.iconst 1) 1 132 := ⟨by decide +kernel, rfl⟩
theorem eX12_compress64_132 : vD cX12_compress64 132 (.invokestatic 221) 3 135 := ⟨by decide +kernel, rfl⟩
theorem eX12_compress64_135 : vD cX12_compress64 135 (.lload 4) 2 137 := ⟨by decide +kernel, rfl⟩
theorem eX12_compress64_137 : vD cX12_compress64 137 (.bipush 8) 2 139 := ⟨by decide +kernel, rfl⟩
theorem eX12_compress64_139 : vD cX12_compress64 139 (.invokestatic 221) 3 142 := ⟨by decide +kernel, rfl⟩
theorem eX12_compress64_142 : vD cX12_compress64 142 .lxor 1 143 := ⟨by decide +kernel, rfl⟩
theorem eX12_compress64_143 : vD cX12_compress64 143 (.lload 4) 2 145 := ⟨by decide +kernel, rfl⟩
theorem eX12_compress64_145 : vD cX12_compress64 145 (.bipush 7) 2 147 := ⟨by decide +kernel, rfl⟩
theorem eX12_compress64_147 : vD cX12_compress64 147 .lushr 1 148 := ⟨by decide +kernel, rfl⟩
theorem eX12_compress64_148 : vD cX12_compress64 148 .lxor 1 149 := ⟨by decide +kernel, rfl⟩
theorem eX12_compress64_149 : vD cX12_compress64 149 .ladd 1 150 := ⟨by decide +kernel, rfl⟩
theorem eX12_compress64_150 : vD cX12_compress64 150 (.aload_n 0) 1 151 := ⟨by decide +kernel, rfl⟩
theorem eX12_compress64_151 : vD cX12_compress64 151 (.getfield 57) 3 154 := ⟨by decide +kernel, rfl⟩
theorem eX12_compress64_154 : vD cX12_compress64 154 (.iload_n 1) 1 155 := ⟨by decide +kernel, rfl⟩
theorem eX12_compress64_155 : vD cX12_compress64 155 (.bipush 16) 2 157 := ⟨by decide +kernel, rfl⟩
theorem eX12_compress64_157 : vD cX12_compress64 157 .isub 1 158 := ⟨by decide +kernel, rfl⟩
theorem eX12_compress64_158 : vD cX12_compress64 158 .laload 1 159 := ⟨by decide +kernel, rfl⟩
theorem eX12_compress64_159 : vD cX12_compress64 159 .ladd 1 160 := ⟨by decide +kernel, rfl⟩
theorem eX12_compress64_160 : vD cX12_compress64 160 .lastore 1 161 := ⟨by decide +kernel, rfl⟩
theorem eX12_compress64_161 : vD cX12_compress64 161 (.iinc 1 1) 3 164 := ⟨by decide +kernel, rfl⟩
theorem eX12_compress64_164 : vD cX12_compress64 164 (.goto (-94)) 3 167 := ⟨by decide +kernel, rfl⟩
theorem eX12_compress64_167 : vD cX12_compress64 167 (.aload_n 0) 1 168 := ⟨by decide +kernel, rfl⟩
theorem eX12_compress64_168 : vD cX12_compress64 168 (.getfield 48) 3 171 := ⟨by decide +kernel, rfl⟩
theorem eX12_compress64_171 : vD cX12_compress64 171 (.iconst 0) 1 172 := ⟨by decide +kernel, rfl⟩
theorem eX12_compress64_172 : vD cX12_compress64 172 .laload 1 173 := ⟨by decide +kernel, rfl⟩
theorem eX12_compress64_173 : vD cX12_compress64 173 (.lstore_n 1) 1 174 := ⟨by decide +kernel, rfl⟩
theorem eX12_compress64_174 : vD cX12_compress64 174 (.aload_n 0) 1 175 := ⟨by decide +kernel, rfl⟩
theorem eX12_compress64_175 : vD cX12_compress64 175 (.getfield 48) 3 178 := ⟨by decide +kernel, rfl⟩
theorem eX12_compress64_178 : vD cX12_compress64 178 (.iconst 1) 1 179 := ⟨by decide +kernel, rfl⟩
theorem eX12_compress64_179 : vD cX12_compress64 179 .laload 1 180 := ⟨by decide +kernel, rfl⟩
theorem eX12_compress64_180 : vD cX12_compress64 180 (.lstore_n 3) 1 181 := ⟨by decide +kernel, rfl⟩
theorem eX12_compress64_181 : vD cX12_compress64 181 (.aload_n 0) 1 182 := ⟨by decide +kernel, rfl⟩
theorem eX12_compress64_182 : vD cX12_compress64 182 (.getfield 48) 3 185 := ⟨by decide +kernel, rfl⟩
theorem eX12_compress64_185 : vD cX12_compress64 185 (.iconst 2) 1 186 := ⟨by decide +kernel, rfl⟩
theorem eX12_compress64_186 : vD cX12_compress64 186 .laload 1 187 := ⟨by decide +kernel, rfl⟩
theorem eX12_compress64_187 : vD cX12_compress64 187 (.lstore 5) 2 189 := ⟨by decide +kernel, rfl⟩
theorem eX12_compress64_189 : vD cX12_compress64 189 (.aload_n 0) 1 190 := ⟨by decide +kernel, rfl⟩
theorem eX12_compress64_190 : vD cX12_compress64 190 (.getfield 48) 3 193 := ⟨by decide +kernel, rfl⟩
theorem eX12_compress64_193 : vD cX12_compress64 193 (.iconst 3) 1 194 := ⟨by decide +kernel, rfl⟩
theorem eX12_compress64_194 : vD cX12_compress64 194 .laload 1 195 := ⟨by decide +kernel, rfl⟩
theorem eX12_compress64_195 : vD cX12_compress64 195 (.lstore 7) 2 197 := ⟨by decide +kernel, rfl⟩
theorem eX12_compress64_197 : vD cX12_compress64 197 (.aload_n 0) 1 198 := ⟨by decide +kernel, rfl⟩
theorem eX12_compress64_198 : vD cX12_compress64 198 (.getfield 48) 3 201 := ⟨by decide +kernel, rfl⟩
theorem eX12_compress64_201 : vD cX12_compress64 201 (.iconst 4) 1 202 := ⟨by decide +kernel, rfl⟩
theorem eX12_compress64_202 : vD cX12_compress64 202 .laload 1 203 := ⟨by decide +kernel, rfl⟩
theorem eX12_compress64_203 : vD cX12_compress64 203 (.lstore 9) 2 205 := ⟨by decide +kernel, rfl⟩
theorem eX12_compress64_205 : vD cX12_compress64 205 (.aload_n 0) 1 206 := ⟨by decide +kernel, rfl⟩
theorem eX12_compress64_206 : vD cX12_compress64 206 (.getfield 48) 3 209 := ⟨by decide +kernel, rfl⟩
theorem eX12_compress64_209 : vD cX12_compress64 209 (.iconst 5) 1 210 := ⟨by decide +kernel, rfl⟩
theorem eX12_compress64_210 : vD cX12_compress64 210 .laload 1 211 := ⟨by decide +kernel, rfl⟩
theorem eX12_compress64_211 : vD cX12_compress64 211 (.lstore 11) 2 213 := ⟨by decide +kernel, rfl⟩
theorem eX12_compress64_213 : vD cX12_compress64 213 (.aload_n 0) 1 214 := ⟨by decide +kernel, rfl⟩
theorem eX12_compress64_214 : vD cX12_compress64 214 (.getfield 48) 3 217 := ⟨by decide +kernel, rfl⟩
theorem eX12_compress64_217 : vD cX12_compress64 217 (.bipush 6) 2 219 := ⟨by decide +kernel, rfl⟩
theorem eX12_compress64_219 : vD cX12_compress64 219 .laload 1 220 := ⟨by decide +kernel, rfl⟩
theorem eX12_compress64_220 : vD cX12_compress64 220 (.lstore 13) 2 222 := ⟨by decide +kernel, rfl⟩
theorem eX12_compress64_222 : vD cX12_compress64 222 (.aload_n 0) 1 223 := ⟨by decide +kernel, rfl⟩
theorem eX12_compress64_223 : vD cX12_compress64 223 (.getfield 48) 3 226 := ⟨by decide +kernel, rfl⟩
theorem eX12_compress64_226 : vD cX12_compress64 226 (.bipush 7) 2 228 := ⟨by decide +kernel, rfl⟩
theorem eX12_compress64_228 : vD cX12_compress64 228 .laload 1 229 := ⟨by decide +kernel, rfl⟩
theorem eX12_compress64_229 : vD cX12_compress64 229 (.lstore 15) 2 231 := ⟨by decide +kernel, rfl⟩
theorem eX12_compress64_231 : vD cX12_compress64 231 (.iconst 0) 1 232 := ⟨by decide +kernel, rfl⟩
theorem eX12_compress64_232 : vD cX12_compress64 232 (.istore 17) 2 234 := ⟨by decide +kernel, rfl⟩
theorem eX12_compress64_234 : vD cX12_compress64 234 (.iload 17) 2 236 := ⟨by decide +kernel, rfl⟩
theorem eX12_compress64_236 : vD cX12_compress64 236 (.bipush 80) 2 238 := ⟨by decide +kernel, rfl⟩
theorem eX12_compress64_238 : vD cX12_compress64 238 (.if_icmp .ge 139) 3 241 := ⟨by decide +kernel, rfl⟩
theorem eX12_compress64_241 : vD cX12_compress64 241 (.lload 15) 2 243 := ⟨by decide +kernel, rfl⟩
theorem eX12_compress64_243 : vD cX12_compress64 243 (.lload 9) 2 245 := ⟨by decide +kernel, rfl⟩
theorem eX12_compress64_245 : vD cX12_compress64 245 (.bipush 14) 2 247 := ⟨by decide +kernel, rfl⟩
theorem eX12_compress64_247 : vD cX12_compress64 247 (.invokestatic 221) 3 250 := ⟨by decide +kernel, rfl⟩
theorem eX12_compress64_250 : vD cX12_compress64 250 (.lload 9) 2 252 := ⟨by decide +kernel, rfl⟩
theorem eX12_compress64_252 : vD cX12_compress64 252 (.bipush 18) 2 254 := ⟨by decide +kernel, rfl⟩
theorem eX12_compress64_254 : vD cX12_compress64 254 (.invokestatic 221) 3 257 := ⟨by decide +kernel, rfl⟩
theorem eX12_compress64_257 : vD cX12_compress64 257 .lxor 1 258 := ⟨by decide +kernel, rfl⟩
theorem eX12_compress64_258 : vD cX12_compress64 258 (.lload 9) 2 260 := ⟨by decide +kernel, rfl⟩
theorem eX12_compress64_260 : vD cX12_compress64 260 (.bipush 41) 2 262 := ⟨by decide +kernel, rfl⟩
theorem eX12_compress64_262 : vD cX12_compress64 262 (.invokestatic 221) 3 265 := ⟨by decide +kernel, rfl⟩
theorem eX12_compress64_265 : vD cX12_compress64 265 .lxor 1 266 := ⟨by decide +kernel, rfl⟩
theorem eX12_compress64_266 : vD cX12_compress64 266 .ladd 1 267 := ⟨by decide +kernel, rfl⟩
theorem eX12_compress64_267 : vD cX12_compress64 267 (.lload 9) 2 269 := ⟨by decide +kernel, rfl⟩
theorem eX12_compress64_269 : vD cX12_compress64 269 (.lload 11) 2 271 := ⟨by decide +kernel, rfl⟩
theorem eX12_compress64_271 : vD cX12_compress64 271 .land 1 272 := ⟨by decide +kernel, rfl⟩
theorem eX12_compress64_272 : vD cX12_compress64 272 (.lload 9) 2 274 := ⟨by decide +kernel, rfl⟩
theorem eX12_compress64_274 : vD cX12_compress64 274 (.ldc2_w 219) 3 277 := ⟨by decide +kernel, rfl⟩
theorem eX12_compress64_277 : vD cX12_compress64 277 .lxor 1 278 := ⟨by decide +kernel, rfl⟩
theorem eX12_compress64_278 : vD cX12_compress64 278 (.lload 13) 2 280 := ⟨by decide +kernel, rfl⟩
theorem eX12_compress64_280 : vD cX12_compress64 280 .land 1 281 := ⟨by decide +kernel, rfl⟩
theorem eX12_compress64_281 : vD cX12_compress64 281 .lxor 1 282 := ⟨by decide +kernel, rfl⟩
theorem eX12_compress64_282 : vD cX12_compress64 282 .ladd 1 283 := ⟨by decide +kernel, rfl⟩
theorem eX12_compress64_283 : vD cX12_compress64 283 (.aload_n 0) 1 284 := ⟨by decide +kernel, rfl⟩
theorem eX12_compress64_284 : vD cX12_compress64 284 (.getfield 27) 3 287 := ⟨by decide +kernel, rfl⟩
theorem eX12_compress64_287 : vD cX12_compress64 287 (.iload 17) 2 289 := ⟨by decide +kernel, rfl⟩
theorem eX12_compress64_289 : vD cX12_compress64 289 .laload 1 290 := ⟨by decide +kernel, rfl⟩
theorem eX12_compress64_290 : vD cX12_compress64 290 .ladd 1 291 := ⟨by decide +kernel, rfl⟩
theorem eX12_compress64_291 : vD cX12_compress64 291 (.aload_n 0) 1 292 := ⟨by decide +kernel, rfl⟩
theorem eX12_compress64_292 : vD cX12_compress64 292 (.getfield 57) 3 295 := ⟨by decide +kernel, rfl⟩
theorem eX12_compress64_295 : vD cX12_compress64 295 (.iload 17) 2 297 := ⟨by decide +kernel, rfl⟩
theorem eX12_compress64_297 : vD cX12_compress64 297 .laload 1 298 := ⟨by decide +kernel, rfl⟩
theorem eX12_compress64_298 : vD cX12_compress64 298 .ladd 1 299 := ⟨by decide +kernel, rfl⟩
theorem eX12_compress64_299 : vD cX12_compress64 299 (.lstore 18) 2 301 := ⟨by decide +kernel, rfl⟩
theorem eX12_compress64_301 : vD cX12_compress64 301 (.lload_n 1) 1 302 := ⟨by decide +kernel, rfl⟩
theorem eX12_compress64_302 : vD cX12_compress64 302 (.bipush 28) 2 304 := ⟨by decide +kernel, rfl⟩
theorem eX12_compress64_304 : vD cX12_compress64 304 (.invokestatic 221) 3 307 := ⟨by decide +kernel, rfl⟩
theorem eX12_compress64_307 : vD cX12_compress64 307 (.lload_n 1) 1 308 := ⟨by decide +kernel, rfl⟩
theorem eX12_compress64_308 : vD cX12_compress64 308 (.bipush 34) 2 310 := ⟨by decide +kernel, rfl⟩
theorem eX12_compress64_310 : vD cX12_compress64 310 (.invokestatic 221) 3 313 := ⟨by decide +kernel, rfl⟩
theorem eX12_compress64_313 : vD cX12_compress64 313 .lxor 1 314 := ⟨by decide +kernel, rfl⟩
theorem eX12_compress64_314 : vD cX12_compress64 314 (.lload_n 1) 1 315 := ⟨by decide +kernel, rfl⟩
theorem eX12_compress64_315 : vD cX12_compress64 315 (.bipush 39) 2 317 := ⟨by decide +kernel, rfl⟩
theorem eX12_compress64_317 : vD cX12_compress64 317 (.invokestatic 221) 3 320 := ⟨by decide +kernel, rfl⟩
theorem eX12_compress64_320 : vD cX12_compress64 320 .lxor 1 321 := ⟨by decide +kernel, rfl⟩
theorem eX12_compress64_321 : vD cX12_compress64 321 (.lload_n 1) 1 322 := ⟨by decide +kernel, rfl⟩
theorem eX12_compress64_322 : vD cX12_compress64 322 (.lload_n 3) 1 323 := ⟨by decide +kernel, rfl⟩
theorem eX12_compress64_323 : vD cX12_compress64 323 .land 1 324 := ⟨by decide +kernel, rfl⟩
theorem eX12_compress64_324 : vD cX12_compress64 324 (.lload_n 1) 1 325 := ⟨by decide +kernel, rfl⟩
theorem eX12_compress64_325 : vD cX12_compress64 325 (.lload 5) 2 327 := ⟨by decide +kernel, rfl⟩
theorem eX12_compress64_327 : vD cX12_compress64 327 .land 1 328 := ⟨by decide +kernel, rfl⟩
theorem eX12_compress64_328 : vD cX12_compress64 328 .lxor 1 329 := ⟨by decide +kernel, rfl⟩
theorem eX12_compress64_329 : vD cX12_compress64 329 (.lload_n 3) 1 330 := ⟨by decide +kernel, rfl⟩
theorem eX12_compress64_330 : vD cX12_compress64 330 (.lload 5) 2 332 := ⟨by decide +kernel, rfl⟩
theorem eX12_compress64_332 : vD cX12_compress64 332 .land 1 333 := ⟨by decide +kernel, rfl⟩
theorem eX12_compress64_333 : vD cX12_compress64 333 .lxor 1 334 := ⟨by decide +kernel, rfl⟩
theorem eX12_compress64_334 : vD cX12_compress64 334 .ladd 1 335 := ⟨by decide +kernel, rfl⟩
theorem eX12_compress64_335 : vD cX12_compress64 335 (.lstore 20) 2 337 := ⟨by decide +kernel, rfl⟩
theorem eX12_compress64_337 : vD cX12_compress64 337 (.lload 13) 2 339 := ⟨by decide +kernel, rfl⟩
theorem eX12_compress64_339 : vD cX12_compress64 339 (.lstore 15) 2 341 := ⟨by decide +kernel, rfl⟩
theorem eX12_compress64_341 : vD cX12_compress64 341 (.lload 11) 2 343 := ⟨by decide +kernel, rfl⟩
theorem eX12_compress64_343 : vD cX12_compress64 343 (.lstore 13) 2 345 := ⟨by decide +kernel, rfl⟩
theorem eX12_compress64_345 : vD cX12_compress64 345 (.lload 9) 2 347 := ⟨by decide +kernel, rfl⟩
theorem eX12_compress64_347 : vD cX12_compress64 347 (.lstore 11) 2 349 := ⟨by decide +kernel, rfl⟩
theorem eX12_compress64_349 : vD cX12_compress64 349 (.lload 7) 2 351 := ⟨by decide +kernel, rfl⟩
theorem eX12_compress64_351 : vD cX12_compress64 351 (.lload 18) 2 353 := ⟨by decide +kernel, rfl⟩
theorem eX12_compress64_353 : vD cX12_compress64 353 .ladd 1 354 := ⟨by decide +kernel, rfl⟩
theorem eX12_compress64_354 : vD cX12_compress64 354 (.lstore 9) 2 356 := ⟨by decide +kernel, rfl⟩
theorem eX12_compress64_356 : vD cX12_compress64 356 (.lload 5) 2 358 := ⟨by decide +kernel, rfl⟩
theorem eX12_compress64_358 : vD cX12_compress64 358 (.lstore 7) 2 360 := ⟨by decide +kernel, rfl⟩
theorem eX12_compress64_360 : vD cX12_compress64 360 (.lload_n 3) 1 361 := ⟨by decide +kernel, rfl⟩
theorem eX12_compress64_361 : vD cX12_compress64 361 (.lstore 5) 2 363 := ⟨by decide +kernel, rfl⟩
theorem eX12_compress64_363 : vD cX12_compress64 363 (.lload_n 1) 1 364 := ⟨by decide +kernel, rfl⟩
theorem eX12_compress64_364 : vD cX12_compress64 364 (.lstore_n 3) 1 365 := ⟨by decide +kernel, rfl⟩
theorem eX12_compress64_365 : vD cX12_compress64 365 (.lload 18) 2 367 := ⟨by decide +kernel, rfl⟩
theorem eX12_compress64_367 : vD cX12_compress64 367 (.lload 20) 2 369 := ⟨by decide +kernel, rfl⟩
theorem eX12_compress64_369 : vD cX12_compress64 369 .ladd 1 370 := ⟨by decide +kernel, rfl⟩
theorem eX12_compress64_370 : vD cX12_compress64 370 (.lstore_n 1) 1 371 := ⟨by decide +kernel, rfl⟩
theorem eX12_compress64_371 : vD cX12_compress64 371 (.iinc 17 1) 3 374 := ⟨by decide +kernel, rfl⟩
theorem eX12_compress64_374 : vD cX12_compress64 374 (.goto (-140)) 3 377 := ⟨by decide +kernel, rfl⟩
theorem eX12_compress64_377 : vD cX12_compress64 377 (.aload_n 0) 1 378 := ⟨by decide +kernel, rfl⟩
theorem eX12_compress64_378 : vD cX12_compress64 378 (.getfield 48) 3 381 := ⟨by decide +kernel, rfl⟩
theorem eX12_compress64_381 : vD cX12_compress64 381 (.iconst 0) 1 382 := ⟨by decide +kernel, rfl⟩
theorem eX12_compress64_382 : vD cX12_compress64 382 .dup2 1 383 := ⟨by decide +kernel, rfl⟩
theorem eX12_compress64_383 : vD cX12_compress64 383 .laload 1 384 := ⟨by decide +kernel, rfl⟩
theorem eX12_compress64_384 : vD cX12_compress64 384 (.lload_n 1) 1 385 := ⟨by decide +kernel, rfl⟩
theorem eX12_compress64_385 : vD cX12_compress64 385 .ladd 1 386 := ⟨by decide +kernel, rfl⟩
theorem eX12_compress64_386 : vD cX12_compress64 386 .lastore 1 387 := ⟨by decide +kernel, rfl⟩
theorem eX12_compress64_387 : vD cX12_compress64 387 (.aload_n 0) 1 388 := ⟨by decide +kernel, rfl⟩
theorem eX12_compress64_388 : vD cX12_compress64 388 (.getfield 48) 3 391 := ⟨by decide +kernel, rfl⟩
theorem eX12_compress64_391 : vD cX12_compress64 391 (.iconst 1) 1 392 := ⟨by decide +kernel, rfl⟩
theorem eX12_compress64_392 : vD cX12_compress64 392 .dup2 1 393 := ⟨by decide +kernel, rfl⟩
theorem eX12_compress64_393 : vD cX12_compress64 393 .laload 1 394 := ⟨by decide +kernel, rfl⟩
theorem eX12_compress64_394 : vD cX12_compress64 394 (.lload_n 3) 1 395 := ⟨by decide +kernel, rfl⟩
theorem eX12_compress64_395 : vD cX12_compress64 395 .ladd 1 396 := ⟨by decide +kernel, rfl⟩
theorem eX12_compress64_396 : vD cX12_compress64 396 .lastore 1 397 := ⟨by decide +kernel, rfl⟩
theorem eX12_compress64_397 : vD cX12_compress64 397 (.aload_n 0) 1 398 := ⟨by decide +kernel, rfl⟩
theorem eX12_compress64_398 : vD cX12_compress64 398 (.getfield 48) 3 401 := ⟨by decide +kernel, rfl⟩
theorem eX12_compress64_401 : vD cX12_compress64 401 (.iconst 2) 1 402 := ⟨by decide +kernel, rfl⟩
theorem eX12_compress64_402 : vD cX12_compress64 402 .dup2 1 403 := ⟨by decide +kernel, rfl⟩
theorem eX12_compress64_403 : vD cX12_compress64 403 .laload 1 404 := ⟨by decide +kernel, rfl⟩
theorem eX12_compress64_404 : vD cX12_compress64 404 (.lload 5) 2 406 := ⟨by decide +kernel, rfl⟩
theorem eX12_compress64_406 : vD cX12_compress64 406 .ladd 1 407 := ⟨by decide +kernel, rfl⟩
theorem eX12_compress64_407 : vD cX12_compress64 407 .lastore 1 408 := ⟨by decide +kernel, rfl⟩
theorem eX12_compress64_408 : vD cX12_compress64 408 (.aload_n 0) 1 409 := ⟨by decide +kernel, rfl⟩
theorem eX12_compress64_409 : vD cX12_compress64 409 (.getfield 48) 3 412 := ⟨by decide +kernel, rfl⟩
theorem eX12_compress64_412 : vD cX12_compress64 412 (.iconst 3) 1 413 := ⟨by decide +kernel, rfl⟩
theorem eX12_compress64_413 : vD cX12_compress64 413 .dup2 1 414 := ⟨by decide +kernel, rfl⟩
theorem eX12_compress64_414 : vD cX12_compress64 414 .laload 1 415 := ⟨by decide +kernel, rfl⟩
theorem eX12_compress64_415 : vD cX12_compress64 415 (.lload 7) 2 417 := ⟨by decide +kernel, rfl⟩
theorem eX12_compress64_417 : vD cX12_compress64 417 .ladd 1 418 := ⟨by decide +kernel, rfl⟩
theorem eX12_compress64_418 : vD cX12_compress64 418 .lastore 1 419 := ⟨by decide +kernel, rfl⟩
theorem eX12_compress64_419 : vD cX12_compress64 419 (.aload_n 0) 1 420 := ⟨by decide +kernel, rfl⟩
theorem eX12_compress64_420 : vD cX12_compress64 420 (.getfield 48) 3 423 := ⟨by decide +kernel, rfl⟩
theorem eX12_compress64_423 : vD cX12_compress64 423 (.iconst 4) 1 424 := ⟨by decide +kernel, rfl⟩
theorem eX12_compress64_424 : vD cX12_compress64 424 .dup2 1 425 := ⟨by decide +kernel, rfl⟩
theorem eX12_compress64_425 : vD cX12_compress64 425 .laload 1 426 := ⟨by decide +kernel, rfl⟩
theorem eX12_compress64_426 : vD cX12_compress64 426 (.lload 9) 2 428 := ⟨by decide +kernel, rfl⟩
theorem eX12_compress64_428 : vD cX12_compress64 428 .ladd 1 429 := ⟨by decide +kernel, rfl⟩
theorem eX12_compress64_429 : vD cX12_compress64 429 .lastore 1 430 := ⟨by decide +kernel, rfl⟩
theorem eX12_compress64_430 : vD cX12_compress64 430 (.aload_n 0) 1 431 := ⟨by decide +kernel, rfl⟩
theorem eX12_compress64_431 : vD cX12_compress64 431 (.getfield 48) 3 434 := ⟨by decide +kernel, rfl⟩
theorem eX12_compress64_434 : vD cX12_compress64 434 (.iconst 5) 1 435 := ⟨by decide +kernel, rfl⟩
theorem eX12_compress64_435 : vD cX12_compress64 435 .dup2 1 436 := ⟨by decide +kernel, rfl⟩
theorem eX12_compress64_436 : vD cX12_compress64 436 .laload 1 437 := ⟨by decide +kernel, rfl⟩
theorem eX12_compress64_437 : vD cX12_compress64 437 (.lload 11) 2 439 := ⟨by decide +kernel, rfl⟩
theorem eX12_compress64_439 : vD cX12_compress64 439 .ladd 1 440 := ⟨by decide +kernel, rfl⟩
theorem eX12_compress64_440 : vD cX12_compress64 440 .lastore 1 441 := ⟨by decide +kernel, rfl⟩
theorem eX12_compress64_441 : vD cX12_compress64 441 (.aload_n 0) 1 442 := ⟨by decide +kernel, rfl⟩
theorem eX12_compress64_442 : vD cX12_compress64 442 (.getfield 48) 3 445 := ⟨by decide +kernel, rfl⟩
theorem eX12_compress64_445 : vD cX12_compress64 445 (.bipush 6) 2 447 := ⟨by decide +kernel, rfl⟩
theorem eX12_compress64_447 : vD cX12_compress64 447 .dup2 1 448 := ⟨by decide +kernel, rfl⟩
theorem eX12_compress64_448 : vD cX12_compress64 448 .laload 1 449 := ⟨by decide +kernel, rfl⟩
theorem eX12_compress64_449 : vD cX12_compress64 449 (.lload 13) 2 451 := ⟨by decide +kernel, rfl⟩
theorem eX12_compress64_451 : vD cX12_compress64 451 .ladd 1 452 := ⟨by decide +kernel, rfl⟩
theorem eX12_compress64_452 : vD cX12_compress64 452 .lastore 1 453 := ⟨by decide +kernel, rfl⟩
theorem eX12_compress64_453 : vD cX12_compress64 453 (.aload_n 0) 1 454 := ⟨by decide +kernel, rfl⟩
theorem eX12_compress64_454 : vD cX12_compress64 454 (.getfield 48) 3 457 := ⟨by decide +kernel, rfl⟩
theorem eX12_compress64_457 : vD cX12_compress64 457 (.bipush 7) 2 459 := ⟨by decide +kernel, rfl⟩
theorem eX12_compress64_459 : vD cX12_compress64 459 .dup2 1 460 := ⟨by decide +kernel, rfl⟩
theorem eX12_compress64_460 : vD cX12_compress64 460 .laload 1 461 := ⟨by decide +kernel, rfl⟩
theorem eX12_compress64_461 : vD cX12_compress64 461 (.lload 15) 2 463 := ⟨by decide +kernel, rfl⟩
theorem eX12_compress64_463 : vD cX12_compress64 463 .ladd 1 464 := ⟨by decide +kernel, rfl⟩
theorem eX12_compress64_464 : vD cX12_compress64 464 .lastore 1 465 := ⟨by decide +kernel, rfl⟩
theorem eX12_compress64_465 : vD cX12_compress64 465 .return_ 1 466 := ⟨by decide +kernel, rfl⟩

/-! THE REFERENCE'S COMPRESSIONS, as its loops go. Bk: the block, Wd: the words, K: the cube roots, S: the state -/
abbrev q64 : Type := Int64 × Int64 × Int64 × Int64 × Int64 × Int64 × Int64 × Int64
def q64g (q : q64) (i : Nat) : Int64 := match i with
  | 0 => q.1 | 1 => q.2.1 | 2 => q.2.2.1 | 3 => q.2.2.2.1 | 4 => q.2.2.2.2.1 | 5 => q.2.2.2.2.2.1 | 6 => q.2.2.2.2.2.2.1 | _ => q.2.2.2.2.2.2.2
def us64 (x : Int64) (n : Int32) : Int64 := (x.toUInt64 >>> (n.toInt64.toUInt64 &&& Int64.toUInt64 63)).toInt64
def c64L1 (Bk : Nat → Int32) (i : Nat) (w : Nat → Int64) (n : Nat) : Nat → Int64 := itN (fun k w => vp_updL w i ((w i <<< ((8 : Int32).toInt64 &&& 63)) ||| ((Bk (8 * i + k)).toInt64 &&& 255))) n (vp_updL w i 0)
def c64L (Bk : Nat → Int32) (n : Nat) (w : Nat → Int64) : Nat → Int64 := itN (fun i w => c64L1 Bk i w 8) n w
def c64X1 (i : Nat) (w : Nat → Int64) : Nat → Int64 := vp_updL w i ((rrR (w (i - 2)) 19 ^^^ rrR (w (i - 2)) 61 ^^^ us64 (w (i - 2)) 6) + w (i - 7) + (rrR (w (i - 15)) 1 ^^^ rrR (w (i - 15)) 8 ^^^ us64 (w (i - 15)) 7) + w (i - 16))
def c64X (n : Nat) (w : Nat → Int64) : Nat → Int64 := itN (fun j w => c64X1 (16 + j) w) n w
def c64x (K Wd : Nat → Int64) (i : Nat) (q : q64) : Int64 := match q with
  | (_, _, _, _, e, f, g, h) => h + ((rrR e 14 ^^^ rrR e 18) ^^^ rrR e 41) + ((e &&& f) ^^^ ((e ^^^ (-1)) &&& g)) + K i + Wd i
def c64y (q : q64) : Int64 := match q with
  | (a, b, c, _, _, _, _, _) => ((rrR a 28 ^^^ rrR a 34) ^^^ rrR a 39) + (((a &&& b) ^^^ (a &&& c)) ^^^ (b &&& c))
def c64R (K Wd : Nat → Int64) (i : Nat) (q : q64) : q64 := match q with
  | (a, b, c, d, e, f, g, h) => (c64x K Wd i (a, b, c, d, e, f, g, h) + c64y (a, b, c, d, e, f, g, h), a, b, c, d + c64x K Wd i (a, b, c, d, e, f, g, h), e, f, g)
def c64A (q : q64) (n : Nat) (S : Nat → Int64) : Nat → Int64 := itN (fun i S => vp_updL S i (S i + q64g q i)) n S
def c64W (Bk : Nat → Int32) (w : Nat → Int64) : Nat → Int64 := c64X 64 (c64L Bk 16 w)
/-- SHA-512's compression: the state behind a block -/
def c64 (K : Nat → Int64) (Bk : Nat → Int32) (w S : Nat → Int64) : Nat → Int64 := c64A (itN (c64R K (c64W Bk w)) 80 (S 0, S 1, S 2, S 3, S 4, S 5, S 6, S 7)) 8 S
section M2
variable {G : vG} {B : Nat} {l : Launch} {ad : Nat → Nat} {N : Nat}
set_option maxRecDepth 100000 in
set_option maxHeartbeats 4000000 in
theorem c64_1 (I : nI1 ad N) (hN : ∀ k, k < 74 → k < N) {σ : nS} {p : Program} {e : Env} {R : Room} {s : State} {m : MethodId} {args : Array Value} {below : List Frame} {meth : Method} {c : Code} {cells slots : Nat} {Q : State → Prop} (C : vC G B p m meth c cX12_compress64 22 none s args yX12_compress64.cls) {x : Nat → Int32} {t : Int64} {S w K : Nat → Int64} {Bk : Nat → Int32} (h49 : σ 49 = eO 9 (mO ad x t)) (h17 : σ 17 = eB G 128 Bk) (h6 : σ 6 = eJ G 80 K) (kk : V G B p l e R s m args below meth c 22 cells slots Q (nW ad N (va_up (va_up σ 13 (eJ G 25 S)) 16 (eJ G 80 (c64L Bk 16 w)))) 67 [(0, .ref (ad 49))] []) : V G B p l e R s m args below meth c 22 cells slots Q (nW ad N (va_up (va_up σ 13 (eJ G 25 S)) 16 (eJ G 80 w))) 0 [(0, .ref (ad 49))] [] := by
  refine v_iconst (v := (0 : Int32)) C eX12_compress64_0 (by decide) ?_
  refine v_istore_n (lv' := [(0, .ref (ad 49)), (1, .int ((0 : Int32)))]) C eX12_compress64_1 rfl (by decide) [1, 0] rfl ?_
  refine v_forV (fun i => va_up (va_up σ 13 (eJ G 25 S)) 16 (eJ G 80 (c64L Bk i w))) (fun i => [(0, .ref (ad 49)), (1, .int (nI i))]) 16 ?_ ?_
  · refine v_iload_n C eX12_compress64_2 rfl 1 rfl ?_
    refine v_bipush (v := (16 : Int32)) C eX12_compress64_3 (by decide) ?_
    refine v_icmp_ge (tgt := 67) C eX12_compress64_5 (by decide) (fun _ => ?_) (fun h => absurd (ix_le (a := 16) (b := 16) (rfl : (16 : Int32) = nI 16) (rfl : nI 16 = nI 16) (by omega) (by omega) (by omega)) h)
    refine v_pick (lv' := [(0, .ref (ad 49))]) [0] rfl ?_
    exact kk
  · intro i hi ihi
    refine v_iload_n C eX12_compress64_2 rfl 1 rfl ?_
    refine v_bipush (v := (16 : Int32)) C eX12_compress64_3 (by decide) ?_
    refine v_icmp_ge (tgt := 67) C eX12_compress64_5 (by decide) (fun h => absurd h (ix_nle (a := 16) (b := i) (rfl : (16 : Int32) = nI 16) (rfl : nI i = nI i) (by omega) (by omega) (by omega))) (fun _ => ?_)
    refine v_aload_n C eX12_compress64_8 rfl 0 rfl ?_
    refine n_get C I fX12_57_X12 eX12_compress64_9 (hN 49 (by decide)) h49 rfl ?_
    refine v_iload_n C eX12_compress64_12 rfl 1 rfl ?_
    refine v_lconst (v := (0 : Int64)) C eX12_compress64_13 (by decide) ?_
    refine n_last C I eX12_compress64_14 (hN 16 (by decide)) rfl i (rfl : nI i = nI i) (by omega) (by decide) ?_
    refine v_iconst (v := (0 : Int32)) C eX12_compress64_15 (by decide) ?_
    refine v_istore_n (lv' := [(0, .ref (ad 49)), (1, .int (nI i)), (2, .int ((0 : Int32)))]) C eX12_compress64_16 rfl (by decide) [1, 2, 0] rfl ?_
    refine v_eq (w' := nW ad N (va_up (va_up (va_up σ 13 (eJ G 25 S)) 16 (eJ G 80 (c64L Bk i w))) 16 (eJ G 80 (c64L1 Bk i (c64L Bk i w) 0)))) rfl rfl rfl ?_
    refine v_eq (w' := nW ad N (va_up (va_up σ 13 (eJ G 25 S)) 16 (eJ G 80 (c64L1 Bk i (c64L Bk i w) 0)))) (congrArg (nW ad N) (n_extL [13, 16] ⟨rfl, rfl, trivial⟩ (fun q h => by simp only [List.mem_cons, List.not_mem_nil, or_false, not_or] at h; simp [va_up, h]))) rfl rfl ?_
    refine v_forV (fun k => va_up (va_up σ 13 (eJ G 25 S)) 16 (eJ G 80 (c64L1 Bk i (c64L Bk i w) k))) (fun k => [(0, .ref (ad 49)), (1, .int (nI i)), (2, .int (nI k))]) 8 ?_ ?_
    · refine v_iload_n C eX12_compress64_17 rfl 2 rfl ?_
      refine v_bipush (v := (8 : Int32)) C eX12_compress64_18 (by decide) ?_
      refine v_icmp_ge (tgt := 61) C eX12_compress64_20 (by decide) (fun _ => ?_) (fun h => absurd (ix_le (a := 8) (b := 8) (rfl : (8 : Int32) = nI 8) (rfl : nI 8 = nI 8) (by omega) (by omega) (by omega)) h)
      refine v_iinc (lv' := [(0, .ref (ad 49)), (1, .int (nI (i + 1))), (2, .int (nI 8))]) C eX12_compress64_61 1 rfl (ix_inc _) (by decide) [1, 0, 2] rfl ?_
      refine v_goto (tgt := 2) C eX12_compress64_64 (by decide) ?_
      refine v_pick (lv' := [(0, .ref (ad 49)), (1, .int (nI (i + 1)))]) [0, 1] rfl ?_
      exact ihi
    · intro k hk ihk
      refine v_iload_n C eX12_compress64_17 rfl 2 rfl ?_
      refine v_bipush (v := (8 : Int32)) C eX12_compress64_18 (by decide) ?_
      refine v_icmp_ge (tgt := 61) C eX12_compress64_20 (by decide) (fun h => absurd h (ix_nle (a := 8) (b := k) (rfl : (8 : Int32) = nI 8) (rfl : nI k = nI k) (by omega) (by omega) (by omega))) (fun _ => ?_)
      refine v_aload_n C eX12_compress64_23 rfl 0 rfl ?_
      refine n_get C I fX12_57_X12 eX12_compress64_24 (hN 49 (by decide)) h49 rfl ?_
      refine v_iload_n C eX12_compress64_27 rfl 1 rfl ?_
      refine v_aload_n C eX12_compress64_28 rfl 0 rfl ?_
      refine n_get C I fX12_57_X12 eX12_compress64_29 (hN 49 (by decide)) h49 rfl ?_
      refine v_iload_n C eX12_compress64_32 rfl 1 rfl ?_
      refine n_lald C I eX12_compress64_33 (hN 16 (by decide)) rfl i (rfl : nI i = nI i) (by omega) (by decide) ?_
      refine v_bipush (v := (8 : Int32)) C eX12_compress64_34 (by decide) ?_
      refine v_lshl C eX12_compress64_36 ?_
      refine v_aload_n C eX12_compress64_37 rfl 0 rfl ?_
      refine n_get C I fX12_60_X12 eX12_compress64_38 (hN 49 (by decide)) h49 rfl ?_
      refine v_bipush (v := (8 : Int32)) C eX12_compress64_41 (by decide) ?_
      refine v_iload_n C eX12_compress64_43 rfl 1 rfl ?_
      refine v_imul C eX12_compress64_44 ?_
      refine v_iload_n C eX12_compress64_45 rfl 2 rfl ?_
      refine v_iadd C eX12_compress64_46 ?_
      refine n_bald C I eX12_compress64_47 (hN 17 (by decide)) h17 ((8 * i) + k) (ix_add (a := 8 * i) (b := k) (ix_mul (a := 8) (b := i) (rfl : (8 : Int32) = nI 8) (rfl : nI i = nI i)) (rfl : nI k = nI k)) (by omega) (by decide) ?_
      refine v_i2l C eX12_compress64_48 ?_
      refine v_ldc2 (v := (255 : Int64)) C eX12_compress64_49 vw_1146 ?_
      refine v_land C eX12_compress64_52 ?_
      refine v_lor C eX12_compress64_53 ?_
      refine n_last C I eX12_compress64_54 (hN 16 (by decide)) rfl i (rfl : nI i = nI i) (by omega) (by decide) ?_
      refine v_iinc (lv' := [(0, .ref (ad 49)), (1, .int (nI i)), (2, .int (nI (k + 1)))]) C eX12_compress64_55 2 rfl (ix_inc _) (by decide) [1, 2, 0] rfl ?_
      refine v_goto (tgt := 17) C eX12_compress64_58 (by decide) ?_
      refine v_eq (w' := nW ad N (va_up (va_up σ 13 (eJ G 25 S)) 16 (eJ G 80 (vp_updL (c64L1 Bk i (c64L Bk i w) k) i ((((c64L1 Bk i (c64L Bk i w) k) i) <<< (((8 : Int32)).toInt64 &&& 63)) ||| (((Bk ((8 * i) + k)).toInt64) &&& ((255 : Int64)))))))) (congrArg (nW ad N) (n_extL [13, 16] ⟨rfl, rfl, trivial⟩ (fun q h => by simp only [List.mem_cons, List.not_mem_nil, or_false, not_or] at h; simp [va_up, h]))) rfl rfl ?_
      exact ihk

set_option maxRecDepth 100000 in
set_option maxHeartbeats 4000000 in
theorem c64_2 (I : nI1 ad N) (hN : ∀ k, k < 74 → k < N) {σ : nS} {p : Program} {e : Env} {R : Room} {s : State} {m : MethodId} {args : Array Value} {below : List Frame} {meth : Method} {c : Code} {cells slots : Nat} {Q : State → Prop} (C : vC G B p m meth c cX12_compress64 22 none s args yX12_compress64.cls) {x : Nat → Int32} {t : Int64} {S w K : Nat → Int64} {Bk : Nat → Int32} (h49 : σ 49 = eO 9 (mO ad x t)) (h17 : σ 17 = eB G 128 Bk) (h6 : σ 6 = eJ G 80 K) {d1 mc1 ms1 : Nat} (hR : R = vRm d1 mc1 ms1) (hdd : 0 + 1 ≤ d1) (hrc : cells + 0 ≤ mc1) (hrs : slots + 0 ≤ ms1) (kk : V G B p l e R s m args below meth c 22 cells slots Q (nW ad N (va_up (va_up σ 13 (eJ G 25 S)) 16 (eJ G 80 (c64X 64 w)))) 167 [(0, .ref (ad 49))] []) : V G B p l e R s m args below meth c 22 cells slots Q (nW ad N (va_up (va_up σ 13 (eJ G 25 S)) 16 (eJ G 80 w))) 67 [(0, .ref (ad 49))] [] := by
  refine v_bipush (v := (16 : Int32)) C eX12_compress64_67 (by decide) ?_
  refine v_istore_n (lv' := [(0, .ref (ad 49)), (1, .int ((16 : Int32)))]) C eX12_compress64_69 rfl (by decide) [1, 0] rfl ?_
  refine v_forV (fun j => va_up (va_up σ 13 (eJ G 25 S)) 16 (eJ G 80 (c64X j w))) (fun j => [(0, .ref (ad 49)), (1, .int (nI (16 + j)))]) 64 ?_ ?_
  · refine v_iload_n C eX12_compress64_70 rfl 1 rfl ?_
    refine v_bipush (v := (80 : Int32)) C eX12_compress64_71 (by decide) ?_
    refine v_icmp_ge (tgt := 167) C eX12_compress64_73 (by decide) (fun _ => ?_) (fun h => absurd (ix_le (a := 80) (b := 16 + 64) (rfl : (80 : Int32) = nI 80) (rfl : nI (16 + 64) = nI (16 + 64)) (by omega) (by omega) (by omega)) h)
    refine v_pick (lv' := [(0, .ref (ad 49))]) [0] rfl ?_
    exact kk
  · intro j hj ihj
    refine v_iload_n C eX12_compress64_70 rfl 1 rfl ?_
    refine v_bipush (v := (80 : Int32)) C eX12_compress64_71 (by decide) ?_
    refine v_icmp_ge (tgt := 167) C eX12_compress64_73 (by decide) (fun h => absurd h (ix_nle (a := 80) (b := 16 + j) (rfl : (80 : Int32) = nI 80) (rfl : nI (16 + j) = nI (16 + j)) (by omega) (by omega) (by omega))) (fun _ => ?_)
    refine v_aload_n C eX12_compress64_76 rfl 0 rfl ?_
    refine n_get C I fX12_57_X12 eX12_compress64_77 (hN 49 (by decide)) h49 rfl ?_
    refine v_iload_n C eX12_compress64_80 rfl 1 rfl ?_
    refine v_iconst (v := (2 : Int32)) C eX12_compress64_81 (by decide) ?_
    refine v_isub C eX12_compress64_82 ?_
    refine n_lald C I eX12_compress64_83 (hN 16 (by decide)) rfl ((16 + j) - 2) (ix_sub (a := 16 + j) (b := 2) (rfl : nI (16 + j) = nI (16 + j)) (rfl : (2 : Int32) = nI 2) (by omega)) (by omega) (by decide) ?_
    refine v_lstore_n (lv' := [(0, .ref (ad 49)), (1, .int (nI (16 + j))), (2, .long ((c64X j w) ((16 + j) - 2)))]) C eX12_compress64_84 rfl (by decide) [1, 2, 0] rfl ?_
    refine v_aload_n C eX12_compress64_85 rfl 0 rfl ?_
    refine n_get C I fX12_57_X12 eX12_compress64_86 (hN 49 (by decide)) h49 rfl ?_
    refine v_iload_n C eX12_compress64_89 rfl 1 rfl ?_
    refine v_bipush (v := (15 : Int32)) C eX12_compress64_90 (by decide) ?_
    refine v_isub C eX12_compress64_92 ?_
    refine n_lald C I eX12_compress64_93 (hN 16 (by decide)) rfl ((16 + j) - 15) (ix_sub (a := 16 + j) (b := 15) (rfl : nI (16 + j) = nI (16 + j)) (rfl : (15 : Int32) = nI 15) (by omega)) (by omega) (by decide) ?_
    refine v_lstore (lv' := [(0, .ref (ad 49)), (1, .int (nI (16 + j))), (2, .long ((c64X j w) ((16 + j) - 2))), (4, .long ((c64X j w) ((16 + j) - 15)))]) C eX12_compress64_94 (by decide) [1, 2, 3, 0] rfl ?_
    refine v_aload_n C eX12_compress64_96 rfl 0 rfl ?_
    refine n_get C I fX12_57_X12 eX12_compress64_97 (hN 49 (by decide)) h49 rfl ?_
    refine v_iload_n C eX12_compress64_100 rfl 1 rfl ?_
    refine v_lload_n C eX12_compress64_101 rfl 2 rfl ?_
    refine v_bipush (v := (19 : Int32)) C eX12_compress64_102 (by decide) ?_
    refine n_callS (av := [.long ((c64X j w) ((16 + j) - 2)), .int ((19 : Int32))]) (rest := [.int (nI (16 + j)), .ref (ad 16)]) C mX12_221 (c_right ((c64X j w) ((16 + j) - 2)) ((19 : Int32))) hR hdd (by decide) ⟨hrc, hrs⟩ rfl rfl (Nat.le_of_ble_eq_true rfl) eX12_compress64_104 (fun r σ' hp => ?_)
    obtain ⟨rfl, rfl⟩ := hp
    refine v_lload_n C eX12_compress64_107 rfl 2 rfl ?_
    refine v_bipush (v := (61 : Int32)) C eX12_compress64_108 (by decide) ?_
    refine n_callS (av := [.long ((c64X j w) ((16 + j) - 2)), .int ((61 : Int32))]) (rest := [.long (rrR ((c64X j w) ((16 + j) - 2)) ((19 : Int32))), .int (nI (16 + j)), .ref (ad 16)]) C mX12_221 (c_right ((c64X j w) ((16 + j) - 2)) ((61 : Int32))) hR hdd (by decide) ⟨hrc, hrs⟩ rfl rfl (Nat.le_of_ble_eq_true rfl) eX12_compress64_110 (fun r σ' hp => ?_)
    obtain ⟨rfl, rfl⟩ := hp
    refine v_lxor C eX12_compress64_113 ?_
    refine v_lload_n C eX12_compress64_114 rfl 2 rfl ?_
    refine v_bipush (v := (6 : Int32)) C eX12_compress64_115 (by decide) ?_
    refine v_lushr C eX12_compress64_117 ?_
    refine v_lxor C eX12_compress64_118 ?_
    refine v_aload_n C eX12_compress64_119 rfl 0 rfl ?_
    refine n_get C I fX12_57_X12 eX12_compress64_120 (hN 49 (by decide)) h49 rfl ?_
    refine v_iload_n C eX12_compress64_123 rfl 1 rfl ?_
    refine v_bipush (v := (7 : Int32)) C eX12_compress64_124 (by decide) ?_
    refine v_isub C eX12_compress64_126 ?_
    refine n_lald C I eX12_compress64_127 (hN 16 (by decide)) rfl ((16 + j) - 7) (ix_sub (a := 16 + j) (b := 7) (rfl : nI (16 + j) = nI (16 + j)) (rfl : (7 : Int32) = nI 7) (by omega)) (by omega) (by decide) ?_
    refine v_ladd C eX12_compress64_128 ?_
    refine v_lload C eX12_compress64_129 3 rfl ?_
    refine v_iconst (v := (1 : Int32)) C eX12_compress64_131 (by decide) ?_
    refine n_callS (av := [.long ((c64X j w) ((16 + j) - 15)), .int ((1 : Int32))]) (rest := [.long ((((rrR ((c64X j w) ((16 + j) - 2)) ((19 : Int32))) ^^^ (rrR ((c64X j w) ((16 + j) - 2)) ((61 : Int32)))) ^^^ ((((c64X j w) ((16 + j) - 2)).toUInt64 >>> (((6 : Int32)).toInt64.toUInt64 &&& Int64.toUInt64 63)).toInt64)) + ((c64X j w) ((16 + j) - 7))), .int (nI (16 + j)), .ref (ad 16)]) C mX12_221 (c_right ((c64X j w) ((16 + j) - 15)) ((1 : Int32))) hR hdd (by decide) ⟨hrc, hrs⟩ rfl rfl (Nat.le_of_ble_eq_true rfl) eX12_compress64_132 (fun r σ' hp => ?_)
    obtain ⟨rfl, rfl⟩ := hp
    refine v_lload C eX12_compress64_135 3 rfl ?_
    refine v_bipush (v := (8 : Int32)) C eX12_compress64_137 (by decide) ?_
    refine n_callS (av := [.long ((c64X j w) ((16 + j) - 15)), .int ((8 : Int32))]) (rest := [.long (rrR ((c64X j w) ((16 + j) - 15)) ((1 : Int32))), .long ((((rrR ((c64X j w) ((16 + j) - 2)) ((19 : Int32))) ^^^ (rrR ((c64X j w) ((16 + j) - 2)) ((61 : Int32)))) ^^^ ((((c64X j w) ((16 + j) - 2)).toUInt64 >>> (((6 : Int32)).toInt64.toUInt64 &&& Int64.toUInt64 63)).toInt64)) + ((c64X j w) ((16 + j) - 7))), .int (nI (16 + j)), .ref (ad 16)]) C mX12_221 (c_right ((c64X j w) ((16 + j) - 15)) ((8 : Int32))) hR hdd (by decide) ⟨hrc, hrs⟩ rfl rfl (Nat.le_of_ble_eq_true rfl) eX12_compress64_139 (fun r σ' hp => ?_)
    obtain ⟨rfl, rfl⟩ := hp
    refine v_lxor C eX12_compress64_142 ?_
    refine v_lload C eX12_compress64_143 3 rfl ?_
    refine v_bipush (v := (7 : Int32)) C eX12_compress64_145 (by decide) ?_
    refine v_lushr C eX12_compress64_147 ?_
    refine v_lxor C eX12_compress64_148 ?_
    refine v_ladd C eX12_compress64_149 ?_
    refine v_aload_n C eX12_compress64_150 rfl 0 rfl ?_
    refine n_get C I fX12_57_X12 eX12_compress64_151 (hN 49 (by decide)) h49 rfl ?_
    refine v_iload_n C eX12_compress64_154 rfl 1 rfl ?_
    refine v_bipush (v := (16 : Int32)) C eX12_compress64_155 (by decide) ?_
    refine v_isub C eX12_compress64_157 ?_
    refine n_lald C I eX12_compress64_158 (hN 16 (by decide)) rfl ((16 + j) - 16) (ix_sub (a := 16 + j) (b := 16) (rfl : nI (16 + j) = nI (16 + j)) (rfl : (16 : Int32) = nI 16) (by omega)) (by omega) (by decide) ?_
    refine v_ladd C eX12_compress64_159 ?_
    refine n_last C I eX12_compress64_160 (hN 16 (by decide)) rfl (16 + j) (rfl : nI (16 + j) = nI (16 + j)) (by omega) (by decide) ?_
    refine v_iinc (lv' := [(0, .ref (ad 49)), (1, .int (nI (16 + j + 1))), (2, .long ((c64X j w) ((16 + j) - 2))), (4, .long ((c64X j w) ((16 + j) - 15)))]) C eX12_compress64_161 1 rfl (ix_inc _) (by decide) [1, 0, 2, 3] rfl ?_
    refine v_goto (tgt := 70) C eX12_compress64_164 (by decide) ?_
    refine v_eq (w' := nW ad N (va_up (va_up σ 13 (eJ G 25 S)) 16 (eJ G 80 (vp_updL (c64X j w) (16 + j) ((((((rrR ((c64X j w) ((16 + j) - 2)) ((19 : Int32))) ^^^ (rrR ((c64X j w) ((16 + j) - 2)) ((61 : Int32)))) ^^^ ((((c64X j w) ((16 + j) - 2)).toUInt64 >>> (((6 : Int32)).toInt64.toUInt64 &&& Int64.toUInt64 63)).toInt64)) + ((c64X j w) ((16 + j) - 7))) + (((rrR ((c64X j w) ((16 + j) - 15)) ((1 : Int32))) ^^^ (rrR ((c64X j w) ((16 + j) - 15)) ((8 : Int32)))) ^^^ ((((c64X j w) ((16 + j) - 15)).toUInt64 >>> (((7 : Int32)).toInt64.toUInt64 &&& Int64.toUInt64 63)).toInt64))) + ((c64X j w) ((16 + j) - 16))))))) (congrArg (nW ad N) (n_extL [13, 16] ⟨rfl, rfl, trivial⟩ (fun q h => by simp only [List.mem_cons, List.not_mem_nil, or_false, not_or] at h; simp [va_up, h]))) rfl rfl ?_
    refine v_pick (lv' := [(0, .ref (ad 49)), (1, .int (nI (16 + j + 1)))]) [0, 1] rfl ?_
    exact ihj

set_option maxRecDepth 100000 in
set_option maxHeartbeats 4000000 in
theorem c64_4 (I : nI1 ad N) (hN : ∀ k, k < 74 → k < N) {σ : nS} {p : Program} {e : Env} {R : Room} {s : State} {m : MethodId} {args : Array Value} {below : List Frame} {meth : Method} {c : Code} {cells slots : Nat} {Q : State → Prop} (C : vC G B p m meth c cX12_compress64 22 none s args yX12_compress64.cls) {x : Nat → Int32} {t : Int64} {S w K : Nat → Int64} {Bk : Nat → Int32} (h49 : σ 49 = eO 9 (mO ad x t)) (h17 : σ 17 = eB G 128 Bk) (h6 : σ 6 = eJ G 80 K) (i : Nat) (hi : i < 80) (a0 b0 c0 d0 e0 f0 g0 h0 : Int64) {d1 mc1 ms1 : Nat} (hR : R = vRm d1 mc1 ms1) (hdd : 0 + 1 ≤ d1) (hrc : cells + 0 ≤ mc1) (hrs : slots + 0 ≤ ms1) (kk : V G B p l e R s m args below meth c 22 cells slots Q (nW ad N (va_up (va_up σ 13 (eJ G 25 S)) 16 (eJ G 80 w))) 234 [(0, .ref (ad 49)), (1, .long ((c64R K w i (a0, b0, c0, d0, e0, f0, g0, h0)).1)), (3, .long ((c64R K w i (a0, b0, c0, d0, e0, f0, g0, h0)).2.1)), (5, .long ((c64R K w i (a0, b0, c0, d0, e0, f0, g0, h0)).2.2.1)), (7, .long ((c64R K w i (a0, b0, c0, d0, e0, f0, g0, h0)).2.2.2.1)), (9, .long ((c64R K w i (a0, b0, c0, d0, e0, f0, g0, h0)).2.2.2.2.1)), (11, .long ((c64R K w i (a0, b0, c0, d0, e0, f0, g0, h0)).2.2.2.2.2.1)), (13, .long ((c64R K w i (a0, b0, c0, d0, e0, f0, g0, h0)).2.2.2.2.2.2.1)), (15, .long ((c64R K w i (a0, b0, c0, d0, e0, f0, g0, h0)).2.2.2.2.2.2.2)), (17, .int (nI (i + 1)))] []) : V G B p l e R s m args below meth c 22 cells slots Q (nW ad N (va_up (va_up σ 13 (eJ G 25 S)) 16 (eJ G 80 w))) 241 [(0, .ref (ad 49)), (1, .long a0), (3, .long b0), (5, .long c0), (7, .long d0), (9, .long e0), (11, .long f0), (13, .long g0), (15, .long h0), (17, .int (nI i))] [] := by
  refine v_lload C eX12_compress64_241 8 rfl ?_
  refine v_lload C eX12_compress64_243 5 rfl ?_
  refine v_bipush (v := (14 : Int32)) C eX12_compress64_245 (by decide) ?_
  refine n_callS (av := [.long e0, .int ((14 : Int32))]) (rest := [.long h0]) C mX12_221 (c_right e0 ((14 : Int32))) hR hdd (by decide) ⟨hrc, hrs⟩ rfl rfl (Nat.le_of_ble_eq_true rfl) eX12_compress64_247 (fun r σ' hp => ?_)
  obtain ⟨rfl, rfl⟩ := hp
  refine v_lload C eX12_compress64_250 5 rfl ?_
  refine v_bipush (v := (18 : Int32)) C eX12_compress64_252 (by decide) ?_
  refine n_callS (av := [.long e0, .int ((18 : Int32))]) (rest := [.long (rrR e0 ((14 : Int32))), .long h0]) C mX12_221 (c_right e0 ((18 : Int32))) hR hdd (by decide) ⟨hrc, hrs⟩ rfl rfl (Nat.le_of_ble_eq_true rfl) eX12_compress64_254 (fun r σ' hp => ?_)
  obtain ⟨rfl, rfl⟩ := hp
  refine v_lxor C eX12_compress64_257 ?_
  refine v_lload C eX12_compress64_258 5 rfl ?_
  refine v_bipush (v := (41 : Int32)) C eX12_compress64_260 (by decide) ?_
  refine n_callS (av := [.long e0, .int ((41 : Int32))]) (rest := [.long ((rrR e0 ((14 : Int32))) ^^^ (rrR e0 ((18 : Int32)))), .long h0]) C mX12_221 (c_right e0 ((41 : Int32))) hR hdd (by decide) ⟨hrc, hrs⟩ rfl rfl (Nat.le_of_ble_eq_true rfl) eX12_compress64_262 (fun r σ' hp => ?_)
  obtain ⟨rfl, rfl⟩ := hp
  refine v_lxor C eX12_compress64_265 ?_
  refine v_ladd C eX12_compress64_266 ?_
  refine v_lload C eX12_compress64_267 5 rfl ?_
  refine v_lload C eX12_compress64_269 6 rfl ?_
  refine v_land C eX12_compress64_271 ?_
  refine v_lload C eX12_compress64_272 5 rfl ?_
  refine v_ldc2 (v := (-1 : Int64)) C eX12_compress64_274 vw_1154 ?_
  refine v_lxor C eX12_compress64_277 ?_
  refine v_lload C eX12_compress64_278 7 rfl ?_
  refine v_land C eX12_compress64_280 ?_
  refine v_lxor C eX12_compress64_281 ?_
  refine v_ladd C eX12_compress64_282 ?_
  refine v_aload_n C eX12_compress64_283 rfl 0 rfl ?_
  refine n_get C I fX12_27_X12 eX12_compress64_284 (hN 49 (by decide)) h49 rfl ?_
  refine v_iload C eX12_compress64_287 9 rfl ?_
  refine n_lald C I eX12_compress64_289 (hN 6 (by decide)) h6 i (rfl : nI i = nI i) (by omega) (by decide) ?_
  refine v_ladd C eX12_compress64_290 ?_
  refine v_aload_n C eX12_compress64_291 rfl 0 rfl ?_
  refine n_get C I fX12_57_X12 eX12_compress64_292 (hN 49 (by decide)) h49 rfl ?_
  refine v_iload C eX12_compress64_295 9 rfl ?_
  refine n_lald C I eX12_compress64_297 (hN 16 (by decide)) rfl i (rfl : nI i = nI i) (by omega) (by decide) ?_
  refine v_ladd C eX12_compress64_298 ?_
  refine v_topl (fun t1 ht1 => ?_)
  refine v_lstore (lv' := [(0, .ref (ad 49)), (1, .long a0), (3, .long b0), (5, .long c0), (7, .long d0), (9, .long e0), (11, .long f0), (13, .long g0), (15, .long h0), (17, .int (nI i)), (18, .long t1)]) C eX12_compress64_299 (by decide) [1, 2, 3, 4, 5, 6, 7, 8, 9, 10, 0] rfl ?_
  refine v_lload_n C eX12_compress64_301 rfl 1 rfl ?_
  refine v_bipush (v := (28 : Int32)) C eX12_compress64_302 (by decide) ?_
  refine n_callS (av := [.long a0, .int ((28 : Int32))]) (rest := []) C mX12_221 (c_right a0 ((28 : Int32))) hR hdd (by decide) ⟨hrc, hrs⟩ rfl rfl (Nat.le_of_ble_eq_true rfl) eX12_compress64_304 (fun r σ' hp => ?_)
  obtain ⟨rfl, rfl⟩ := hp
  refine v_lload_n C eX12_compress64_307 rfl 1 rfl ?_
  refine v_bipush (v := (34 : Int32)) C eX12_compress64_308 (by decide) ?_
  refine n_callS (av := [.long a0, .int ((34 : Int32))]) (rest := [.long (rrR a0 ((28 : Int32)))]) C mX12_221 (c_right a0 ((34 : Int32))) hR hdd (by decide) ⟨hrc, hrs⟩ rfl rfl (Nat.le_of_ble_eq_true rfl) eX12_compress64_310 (fun r σ' hp => ?_)
  obtain ⟨rfl, rfl⟩ := hp
  refine v_lxor C eX12_compress64_313 ?_
  refine v_lload_n C eX12_compress64_314 rfl 1 rfl ?_
  refine v_bipush (v := (39 : Int32)) C eX12_compress64_315 (by decide) ?_
  refine n_callS (av := [.long a0, .int ((39 : Int32))]) (rest := [.long ((rrR a0 ((28 : Int32))) ^^^ (rrR a0 ((34 : Int32))))]) C mX12_221 (c_right a0 ((39 : Int32))) hR hdd (by decide) ⟨hrc, hrs⟩ rfl rfl (Nat.le_of_ble_eq_true rfl) eX12_compress64_317 (fun r σ' hp => ?_)
  obtain ⟨rfl, rfl⟩ := hp
  refine v_lxor C eX12_compress64_320 ?_
  refine v_lload_n C eX12_compress64_321 rfl 1 rfl ?_
  refine v_lload_n C eX12_compress64_322 rfl 2 rfl ?_
  refine v_land C eX12_compress64_323 ?_
  refine v_lload_n C eX12_compress64_324 rfl 1 rfl ?_
  refine v_lload C eX12_compress64_325 3 rfl ?_
  refine v_land C eX12_compress64_327 ?_
  refine v_lxor C eX12_compress64_328 ?_
  refine v_lload_n C eX12_compress64_329 rfl 2 rfl ?_
  refine v_lload C eX12_compress64_330 3 rfl ?_
  refine v_land C eX12_compress64_332 ?_
  refine v_lxor C eX12_compress64_333 ?_
  refine v_ladd C eX12_compress64_334 ?_
  refine v_topl (fun t2 ht2 => ?_)
  refine v_lstore (lv' := [(0, .ref (ad 49)), (1, .long a0), (3, .long b0), (5, .long c0), (7, .long d0), (9, .long e0), (11, .long f0), (13, .long g0), (15, .long h0), (17, .int (nI i)), (18, .long t1), (20, .long t2)]) C eX12_compress64_335 (by decide) [1, 2, 3, 4, 5, 6, 7, 8, 9, 10, 11, 0] rfl ?_
  refine v_lload C eX12_compress64_337 7 rfl ?_
  refine v_lstore (lv' := [(0, .ref (ad 49)), (1, .long a0), (3, .long b0), (5, .long c0), (7, .long d0), (9, .long e0), (11, .long f0), (13, .long g0), (15, .long g0), (17, .int (nI i)), (18, .long t1), (20, .long t2)]) C eX12_compress64_339 (by decide) [1, 2, 3, 4, 5, 6, 7, 8, 0, 9, 10, 11] rfl ?_
  refine v_lload C eX12_compress64_341 6 rfl ?_
  refine v_lstore (lv' := [(0, .ref (ad 49)), (1, .long a0), (3, .long b0), (5, .long c0), (7, .long d0), (9, .long e0), (11, .long f0), (13, .long f0), (15, .long g0), (17, .int (nI i)), (18, .long t1), (20, .long t2)]) C eX12_compress64_343 (by decide) [1, 2, 3, 4, 5, 6, 7, 0, 8, 9, 10, 11] rfl ?_
  refine v_lload C eX12_compress64_345 5 rfl ?_
  refine v_lstore (lv' := [(0, .ref (ad 49)), (1, .long a0), (3, .long b0), (5, .long c0), (7, .long d0), (9, .long e0), (11, .long e0), (13, .long f0), (15, .long g0), (17, .int (nI i)), (18, .long t1), (20, .long t2)]) C eX12_compress64_347 (by decide) [1, 2, 3, 4, 5, 6, 0, 7, 8, 9, 10, 11] rfl ?_
  refine v_lload C eX12_compress64_349 4 rfl ?_
  refine v_lload C eX12_compress64_351 10 rfl ?_
  refine v_ladd C eX12_compress64_353 ?_
  refine v_topl (fun t3 ht3 => ?_)
  refine v_lstore (lv' := [(0, .ref (ad 49)), (1, .long a0), (3, .long b0), (5, .long c0), (7, .long d0), (9, .long t3), (11, .long e0), (13, .long f0), (15, .long g0), (17, .int (nI i)), (18, .long t1), (20, .long t2)]) C eX12_compress64_354 (by decide) [1, 2, 3, 4, 5, 0, 6, 7, 8, 9, 10, 11] rfl ?_
  refine v_lload C eX12_compress64_356 3 rfl ?_
  refine v_lstore (lv' := [(0, .ref (ad 49)), (1, .long a0), (3, .long b0), (5, .long c0), (7, .long c0), (9, .long t3), (11, .long e0), (13, .long f0), (15, .long g0), (17, .int (nI i)), (18, .long t1), (20, .long t2)]) C eX12_compress64_358 (by decide) [1, 2, 3, 4, 0, 5, 6, 7, 8, 9, 10, 11] rfl ?_
  refine v_lload_n C eX12_compress64_360 rfl 2 rfl ?_
  refine v_lstore (lv' := [(0, .ref (ad 49)), (1, .long a0), (3, .long b0), (5, .long b0), (7, .long c0), (9, .long t3), (11, .long e0), (13, .long f0), (15, .long g0), (17, .int (nI i)), (18, .long t1), (20, .long t2)]) C eX12_compress64_361 (by decide) [1, 2, 3, 0, 4, 5, 6, 7, 8, 9, 10, 11] rfl ?_
  refine v_lload_n C eX12_compress64_363 rfl 1 rfl ?_
  refine v_lstore_n (lv' := [(0, .ref (ad 49)), (1, .long a0), (3, .long a0), (5, .long b0), (7, .long c0), (9, .long t3), (11, .long e0), (13, .long f0), (15, .long g0), (17, .int (nI i)), (18, .long t1), (20, .long t2)]) C eX12_compress64_364 rfl (by decide) [1, 2, 0, 3, 4, 5, 6, 7, 8, 9, 10, 11] rfl ?_
  refine v_lload C eX12_compress64_365 10 rfl ?_
  refine v_lload C eX12_compress64_367 11 rfl ?_
  refine v_ladd C eX12_compress64_369 ?_
  refine v_topl (fun t4 ht4 => ?_)
  refine v_lstore_n (lv' := [(0, .ref (ad 49)), (1, .long t4), (3, .long a0), (5, .long b0), (7, .long c0), (9, .long t3), (11, .long e0), (13, .long f0), (15, .long g0), (17, .int (nI i)), (18, .long t1), (20, .long t2)]) C eX12_compress64_370 rfl (by decide) [1, 0, 2, 3, 4, 5, 6, 7, 8, 9, 10, 11] rfl ?_
  refine v_iinc (lv' := [(0, .ref (ad 49)), (1, .long t4), (3, .long a0), (5, .long b0), (7, .long c0), (9, .long t3), (11, .long e0), (13, .long f0), (15, .long g0), (17, .int (nI (i + 1))), (18, .long t1), (20, .long t2)]) C eX12_compress64_371 9 rfl (ix_inc _) (by decide) [1, 2, 3, 4, 5, 6, 7, 8, 9, 0, 10, 11] rfl ?_
  refine v_goto (tgt := 234) C eX12_compress64_374 (by decide) ?_
  refine v_pick (lv' := [(0, .ref (ad 49)), (1, .long t4), (3, .long a0), (5, .long b0), (7, .long c0), (9, .long t3), (11, .long e0), (13, .long f0), (15, .long g0), (17, .int (nI (i + 1)))]) [0, 1, 2, 3, 4, 5, 6, 7, 8, 9] rfl ?_
  subst ht1
  subst ht2
  subst ht3
  subst ht4
  exact kk

set_option maxRecDepth 100000 in
set_option maxHeartbeats 4000000 in
theorem c64_5 (I : nI1 ad N) (hN : ∀ k, k < 74 → k < N) {σ : nS} {p : Program} {e : Env} {R : Room} {s : State} {m : MethodId} {args : Array Value} {below : List Frame} {meth : Method} {c : Code} {cells slots : Nat} {Q : State → Prop} (C : vC G B p m meth c cX12_compress64 22 none s args yX12_compress64.cls) {x : Nat → Int32} {t : Int64} {S w K : Nat → Int64} {Bk : Nat → Int32} (h49 : σ 49 = eO 9 (mO ad x t)) (h17 : σ 17 = eB G 128 Bk) (h6 : σ 6 = eJ G 80 K) (a0 b0 c0 d0 e0 f0 g0 h0 : Int64) (kk : V G B p l e R s m args below meth c 22 cells slots Q (nW ad N (va_up (va_up σ 13 (eJ G 25 (c64A (a0, b0, c0, d0, e0, f0, g0, h0) 8 S))) 16 (eJ G 80 w))) 465 [(0, .ref (ad 49))] []) : V G B p l e R s m args below meth c 22 cells slots Q (nW ad N (va_up (va_up σ 13 (eJ G 25 S)) 16 (eJ G 80 w))) 377 [(0, .ref (ad 49)), (1, .long a0), (3, .long b0), (5, .long c0), (7, .long d0), (9, .long e0), (11, .long f0), (13, .long g0), (15, .long h0)] [] := by
  refine v_aload_n C eX12_compress64_377 rfl 0 rfl ?_
  refine n_get C I fX12_48_X12 eX12_compress64_378 (hN 49 (by decide)) h49 rfl ?_
  refine v_iconst (v := (0 : Int32)) C eX12_compress64_381 (by decide) ?_
  refine v_dup2_11 C eX12_compress64_382 rfl rfl ?_
  refine n_lald C I eX12_compress64_383 (hN 13 (by decide)) rfl 0 (rfl : (0 : Int32) = nI 0) (by omega) (by decide) ?_
  refine v_lload_n C eX12_compress64_384 rfl 1 rfl ?_
  refine v_ladd C eX12_compress64_385 ?_
  refine n_last C I eX12_compress64_386 (hN 13 (by decide)) rfl 0 (rfl : (0 : Int32) = nI 0) (by omega) (by decide) ?_
  refine v_eq (w' := nW ad N (va_up (va_up σ 13 (eJ G 25 (vp_updL S 0 ((S 0) + a0)))) 16 (eJ G 80 w))) (congrArg (nW ad N) (n_extL [13, 16] ⟨rfl, rfl, trivial⟩ (fun q h => by simp only [List.mem_cons, List.not_mem_nil, or_false, not_or] at h; simp [va_up, h]))) rfl rfl ?_
  refine v_eq (w' := nW ad N (va_up (va_up σ 13 (eJ G 25 (c64A (a0, b0, c0, d0, e0, f0, g0, h0) 1 S))) 16 (eJ G 80 w))) rfl rfl rfl ?_
  refine v_aload_n C eX12_compress64_387 rfl 0 rfl ?_
  refine n_get C I fX12_48_X12 eX12_compress64_388 (hN 49 (by decide)) h49 rfl ?_
  refine v_iconst (v := (1 : Int32)) C eX12_compress64_391 (by decide) ?_
  refine v_dup2_11 C eX12_compress64_392 rfl rfl ?_
  refine n_lald C I eX12_compress64_393 (hN 13 (by decide)) rfl 1 (rfl : (1 : Int32) = nI 1) (by omega) (by decide) ?_
  refine v_lload_n C eX12_compress64_394 rfl 2 rfl ?_
  refine v_ladd C eX12_compress64_395 ?_
  refine n_last C I eX12_compress64_396 (hN 13 (by decide)) rfl 1 (rfl : (1 : Int32) = nI 1) (by omega) (by decide) ?_
  refine v_eq (w' := nW ad N (va_up (va_up σ 13 (eJ G 25 (vp_updL (c64A (a0, b0, c0, d0, e0, f0, g0, h0) 1 S) 1 (((c64A (a0, b0, c0, d0, e0, f0, g0, h0) 1 S) 1) + b0)))) 16 (eJ G 80 w))) (congrArg (nW ad N) (n_extL [13, 16] ⟨rfl, rfl, trivial⟩ (fun q h => by simp only [List.mem_cons, List.not_mem_nil, or_false, not_or] at h; simp [va_up, h]))) rfl rfl ?_
  refine v_eq (w' := nW ad N (va_up (va_up σ 13 (eJ G 25 (c64A (a0, b0, c0, d0, e0, f0, g0, h0) 2 S))) 16 (eJ G 80 w))) rfl rfl rfl ?_
  refine v_aload_n C eX12_compress64_397 rfl 0 rfl ?_
  refine n_get C I fX12_48_X12 eX12_compress64_398 (hN 49 (by decide)) h49 rfl ?_
  refine v_iconst (v := (2 : Int32)) C eX12_compress64_401 (by decide) ?_
  refine v_dup2_11 C eX12_compress64_402 rfl rfl ?_
  refine n_lald C I eX12_compress64_403 (hN 13 (by decide)) rfl 2 (rfl : (2 : Int32) = nI 2) (by omega) (by decide) ?_
  refine v_lload C eX12_compress64_404 3 rfl ?_
  refine v_ladd C eX12_compress64_406 ?_
  refine n_last C I eX12_compress64_407 (hN 13 (by decide)) rfl 2 (rfl : (2 : Int32) = nI 2) (by omega) (by decide) ?_
  refine v_eq (w' := nW ad N (va_up (va_up σ 13 (eJ G 25 (vp_updL (c64A (a0, b0, c0, d0, e0, f0, g0, h0) 2 S) 2 (((c64A (a0, b0, c0, d0, e0, f0, g0, h0) 2 S) 2) + c0)))) 16 (eJ G 80 w))) (congrArg (nW ad N) (n_extL [13, 16] ⟨rfl, rfl, trivial⟩ (fun q h => by simp only [List.mem_cons, List.not_mem_nil, or_false, not_or] at h; simp [va_up, h]))) rfl rfl ?_
  refine v_eq (w' := nW ad N (va_up (va_up σ 13 (eJ G 25 (c64A (a0, b0, c0, d0, e0, f0, g0, h0) 3 S))) 16 (eJ G 80 w))) rfl rfl rfl ?_
  refine v_aload_n C eX12_compress64_408 rfl 0 rfl ?_
  refine n_get C I fX12_48_X12 eX12_compress64_409 (hN 49 (by decide)) h49 rfl ?_
  refine v_iconst (v := (3 : Int32)) C eX12_compress64_412 (by decide) ?_
  refine v_dup2_11 C eX12_compress64_413 rfl rfl ?_
  refine n_lald C I eX12_compress64_414 (hN 13 (by decide)) rfl 3 (rfl : (3 : Int32) = nI 3) (by omega) (by decide) ?_
  refine v_lload C eX12_compress64_415 4 rfl ?_
  refine v_ladd C eX12_compress64_417 ?_
  refine n_last C I eX12_compress64_418 (hN 13 (by decide)) rfl 3 (rfl : (3 : Int32) = nI 3) (by omega) (by decide) ?_
  refine v_eq (w' := nW ad N (va_up (va_up σ 13 (eJ G 25 (vp_updL (c64A (a0, b0, c0, d0, e0, f0, g0, h0) 3 S) 3 (((c64A (a0, b0, c0, d0, e0, f0, g0, h0) 3 S) 3) + d0)))) 16 (eJ G 80 w))) (congrArg (nW ad N) (n_extL [13, 16] ⟨rfl, rfl, trivial⟩ (fun q h => by simp only [List.mem_cons, List.not_mem_nil, or_false, not_or] at h; simp [va_up, h]))) rfl rfl ?_
  refine v_eq (w' := nW ad N (va_up (va_up σ 13 (eJ G 25 (c64A (a0, b0, c0, d0, e0, f0, g0, h0) 4 S))) 16 (eJ G 80 w))) rfl rfl rfl ?_
  refine v_aload_n C eX12_compress64_419 rfl 0 rfl ?_
  refine n_get C I fX12_48_X12 eX12_compress64_420 (hN 49 (by decide)) h49 rfl ?_
  refine v_iconst (v := (4 : Int32)) C eX12_compress64_423 (by decide) ?_
  refine v_dup2_11 C eX12_compress64_424 rfl rfl ?_
  refine n_lald C I eX12_compress64_425 (hN 13 (by decide)) rfl 4 (rfl : (4 : Int32) = nI 4) (by omega) (by decide) ?_
  refine v_lload C eX12_compress64_426 5 rfl ?_
  refine v_ladd C eX12_compress64_428 ?_
  refine n_last C I eX12_compress64_429 (hN 13 (by decide)) rfl 4 (rfl : (4 : Int32) = nI 4) (by omega) (by decide) ?_
  refine v_eq (w' := nW ad N (va_up (va_up σ 13 (eJ G 25 (vp_updL (c64A (a0, b0, c0, d0, e0, f0, g0, h0) 4 S) 4 (((c64A (a0, b0, c0, d0, e0, f0, g0, h0) 4 S) 4) + e0)))) 16 (eJ G 80 w))) (congrArg (nW ad N) (n_extL [13, 16] ⟨rfl, rfl, trivial⟩ (fun q h => by simp only [List.mem_cons, List.not_mem_nil, or_false, not_or] at h; simp [va_up, h]))) rfl rfl ?_
  refine v_eq (w' := nW ad N (va_up (va_up σ 13 (eJ G 25 (c64A (a0, b0, c0, d0, e0, f0, g0, h0) 5 S))) 16 (eJ G 80 w))) rfl rfl rfl ?_
  refine v_aload_n C eX12_compress64_430 rfl 0 rfl ?_
  refine n_get C I fX12_48_X12 eX12_compress64_431 (hN 49 (by decide)) h49 rfl ?_
  refine v_iconst (v := (5 : Int32)) C eX12_compress64_434 (by decide) ?_
  refine v_dup2_11 C eX12_compress64_435 rfl rfl ?_
  refine n_lald C I eX12_compress64_436 (hN 13 (by decide)) rfl 5 (rfl : (5 : Int32) = nI 5) (by omega) (by decide) ?_
  refine v_lload C eX12_compress64_437 6 rfl ?_
  refine v_ladd C eX12_compress64_439 ?_
  refine n_last C I eX12_compress64_440 (hN 13 (by decide)) rfl 5 (rfl : (5 : Int32) = nI 5) (by omega) (by decide) ?_
  refine v_eq (w' := nW ad N (va_up (va_up σ 13 (eJ G 25 (vp_updL (c64A (a0, b0, c0, d0, e0, f0, g0, h0) 5 S) 5 (((c64A (a0, b0, c0, d0, e0, f0, g0, h0) 5 S) 5) + f0)))) 16 (eJ G 80 w))) (congrArg (nW ad N) (n_extL [13, 16] ⟨rfl, rfl, trivial⟩ (fun q h => by simp only [List.mem_cons, List.not_mem_nil, or_false, not_or] at h; simp [va_up, h]))) rfl rfl ?_
  refine v_eq (w' := nW ad N (va_up (va_up σ 13 (eJ G 25 (c64A (a0, b0, c0, d0, e0, f0, g0, h0) 6 S))) 16 (eJ G 80 w))) rfl rfl rfl ?_
  refine v_aload_n C eX12_compress64_441 rfl 0 rfl ?_
  refine n_get C I fX12_48_X12 eX12_compress64_442 (hN 49 (by decide)) h49 rfl ?_
  refine v_bipush (v := (6 : Int32)) C eX12_compress64_445 (by decide) ?_
  refine v_dup2_11 C eX12_compress64_447 rfl rfl ?_
  refine n_lald C I eX12_compress64_448 (hN 13 (by decide)) rfl 6 (rfl : (6 : Int32) = nI 6) (by omega) (by decide) ?_
  refine v_lload C eX12_compress64_449 7 rfl ?_
  refine v_ladd C eX12_compress64_451 ?_
  refine n_last C I eX12_compress64_452 (hN 13 (by decide)) rfl 6 (rfl : (6 : Int32) = nI 6) (by omega) (by decide) ?_
  refine v_eq (w' := nW ad N (va_up (va_up σ 13 (eJ G 25 (vp_updL (c64A (a0, b0, c0, d0, e0, f0, g0, h0) 6 S) 6 (((c64A (a0, b0, c0, d0, e0, f0, g0, h0) 6 S) 6) + g0)))) 16 (eJ G 80 w))) (congrArg (nW ad N) (n_extL [13, 16] ⟨rfl, rfl, trivial⟩ (fun q h => by simp only [List.mem_cons, List.not_mem_nil, or_false, not_or] at h; simp [va_up, h]))) rfl rfl ?_
  refine v_eq (w' := nW ad N (va_up (va_up σ 13 (eJ G 25 (c64A (a0, b0, c0, d0, e0, f0, g0, h0) 7 S))) 16 (eJ G 80 w))) rfl rfl rfl ?_
  refine v_aload_n C eX12_compress64_453 rfl 0 rfl ?_
  refine n_get C I fX12_48_X12 eX12_compress64_454 (hN 49 (by decide)) h49 rfl ?_
  refine v_bipush (v := (7 : Int32)) C eX12_compress64_457 (by decide) ?_
  refine v_dup2_11 C eX12_compress64_459 rfl rfl ?_
  refine n_lald C I eX12_compress64_460 (hN 13 (by decide)) rfl 7 (rfl : (7 : Int32) = nI 7) (by omega) (by decide) ?_
  refine v_lload C eX12_compress64_461 8 rfl ?_
  refine v_ladd C eX12_compress64_463 ?_
  refine n_last C I eX12_compress64_464 (hN 13 (by decide)) rfl 7 (rfl : (7 : Int32) = nI 7) (by omega) (by decide) ?_
  refine v_eq (w' := nW ad N (va_up (va_up σ 13 (eJ G 25 (vp_updL (c64A (a0, b0, c0, d0, e0, f0, g0, h0) 7 S) 7 (((c64A (a0, b0, c0, d0, e0, f0, g0, h0) 7 S) 7) + h0)))) 16 (eJ G 80 w))) (congrArg (nW ad N) (n_extL [13, 16] ⟨rfl, rfl, trivial⟩ (fun q h => by simp only [List.mem_cons, List.not_mem_nil, or_false, not_or] at h; simp [va_up, h]))) rfl rfl ?_
  refine v_eq (w' := nW ad N (va_up (va_up σ 13 (eJ G 25 (c64A (a0, b0, c0, d0, e0, f0, g0, h0) 8 S))) 16 (eJ G 80 w))) rfl rfl rfl ?_
  refine v_pick (lv' := [(0, .ref (ad 49))]) [0] rfl ?_
  exact kk


set_option maxRecDepth 100000 in
set_option maxHeartbeats 4000000 in
theorem c_compress64 (I : nI1 ad N) (hN : ∀ k, k < 74 → k < N) {σ : nS} {x : Nat → Int32} {t : Int64} {S w K : Nat → Int64} {Bk : Nat → Int32} (h13 : σ 13 = eJ G 25 S) (h16 : σ 16 = eJ G 80 w) (h49 : σ 49 = eO 9 (mO ad x t)) (h17 : σ 17 = eB G 128 Bk) (h6 : σ 6 = eJ G 80 K) : nOk G B l ad N yX12_compress64 cX12_compress64 22 none 1 0 0 [.ref (ad 49)] σ (fun r σ' => r = none ∧ σ' = va_up (va_up σ 13 (eJ G 25 (c64 K Bk w S))) 16 (eJ G 80 (c64W Bk w))) := by
  refine vOk.of (by decide +kernel) (Nat.le_of_ble_eq_true rfl) ?_
  intro p e s m args below meth c C
  refine v_eq (lv' := [(0, .ref (ad 49))]) rfl rfl rfl ?_
  refine v_eq (w' := nW ad N (va_up (va_up σ 13 (eJ G 25 S)) 16 (eJ G 80 w))) (congrArg (nW ad N) (n_extL [13, 16] ⟨h13, h16, trivial⟩ (fun q h => by simp only [List.mem_cons, List.not_mem_nil, or_false, not_or] at h; simp [va_up, h]))) rfl rfl ?_
  refine c64_1 I hN C h49 h17 h6 ?_
  refine c64_2 I hN C h49 h17 h6 rfl (by decide) (by decide) (by decide) ?_
  refine v_eq (w' := nW ad N (va_up (va_up σ 13 (eJ G 25 S)) 16 (eJ G 80 (c64W Bk w)))) rfl rfl rfl ?_
  refine v_aload_n C eX12_compress64_167 rfl 0 rfl ?_
  refine n_get C I fX12_48_X12 eX12_compress64_168 (hN 49 (by decide)) h49 rfl ?_
  refine v_iconst (v := (0 : Int32)) C eX12_compress64_171 (by decide) ?_
  refine n_lald C I eX12_compress64_172 (hN 13 (by decide)) rfl 0 (rfl : (0 : Int32) = nI 0) (by omega) (by decide) ?_
  refine v_lstore_n (lv' := [(0, .ref (ad 49)), (1, .long (S 0))]) C eX12_compress64_173 rfl (by decide) [1, 0] rfl ?_
  refine v_aload_n C eX12_compress64_174 rfl 0 rfl ?_
  refine n_get C I fX12_48_X12 eX12_compress64_175 (hN 49 (by decide)) h49 rfl ?_
  refine v_iconst (v := (1 : Int32)) C eX12_compress64_178 (by decide) ?_
  refine n_lald C I eX12_compress64_179 (hN 13 (by decide)) rfl 1 (rfl : (1 : Int32) = nI 1) (by omega) (by decide) ?_
  refine v_lstore_n (lv' := [(0, .ref (ad 49)), (1, .long (S 0)), (3, .long (S 1))]) C eX12_compress64_180 rfl (by decide) [1, 2, 0] rfl ?_
  refine v_aload_n C eX12_compress64_181 rfl 0 rfl ?_
  refine n_get C I fX12_48_X12 eX12_compress64_182 (hN 49 (by decide)) h49 rfl ?_
  refine v_iconst (v := (2 : Int32)) C eX12_compress64_185 (by decide) ?_
  refine n_lald C I eX12_compress64_186 (hN 13 (by decide)) rfl 2 (rfl : (2 : Int32) = nI 2) (by omega) (by decide) ?_
  refine v_lstore (lv' := [(0, .ref (ad 49)), (1, .long (S 0)), (3, .long (S 1)), (5, .long (S 2))]) C eX12_compress64_187 (by decide) [1, 2, 3, 0] rfl ?_
  refine v_aload_n C eX12_compress64_189 rfl 0 rfl ?_
  refine n_get C I fX12_48_X12 eX12_compress64_190 (hN 49 (by decide)) h49 rfl ?_
  refine v_iconst (v := (3 : Int32)) C eX12_compress64_193 (by decide) ?_
  refine n_lald C I eX12_compress64_194 (hN 13 (by decide)) rfl 3 (rfl : (3 : Int32) = nI 3) (by omega) (by decide) ?_
  refine v_lstore (lv' := [(0, .ref (ad 49)), (1, .long (S 0)), (3, .long (S 1)), (5, .long (S 2)), (7, .long (S 3))]) C eX12_compress64_195 (by decide) [1, 2, 3, 4, 0] rfl ?_
  refine v_aload_n C eX12_compress64_197 rfl 0 rfl ?_
  refine n_get C I fX12_48_X12 eX12_compress64_198 (hN 49 (by decide)) h49 rfl ?_
  refine v_iconst (v := (4 : Int32)) C eX12_compress64_201 (by decide) ?_
  refine n_lald C I eX12_compress64_202 (hN 13 (by decide)) rfl 4 (rfl : (4 : Int32) = nI 4) (by omega) (by decide) ?_
  refine v_lstore (lv' := [(0, .ref (ad 49)), (1, .long (S 0)), (3, .long (S 1)), (5, .long (S 2)), (7, .long (S 3)), (9, .long (S 4))]) C eX12_compress64_203 (by decide) [1, 2, 3, 4, 5, 0] rfl ?_
  refine v_aload_n C eX12_compress64_205 rfl 0 rfl ?_
  refine n_get C I fX12_48_X12 eX12_compress64_206 (hN 49 (by decide)) h49 rfl ?_
  refine v_iconst (v := (5 : Int32)) C eX12_compress64_209 (by decide) ?_
  refine n_lald C I eX12_compress64_210 (hN 13 (by decide)) rfl 5 (rfl : (5 : Int32) = nI 5) (by omega) (by decide) ?_
  refine v_lstore (lv' := [(0, .ref (ad 49)), (1, .long (S 0)), (3, .long (S 1)), (5, .long (S 2)), (7, .long (S 3)), (9, .long (S 4)), (11, .long (S 5))]) C eX12_compress64_211 (by decide) [1, 2, 3, 4, 5, 6, 0] rfl ?_
  refine v_aload_n C eX12_compress64_213 rfl 0 rfl ?_
  refine n_get C I fX12_48_X12 eX12_compress64_214 (hN 49 (by decide)) h49 rfl ?_
  refine v_bipush (v := (6 : Int32)) C eX12_compress64_217 (by decide) ?_
  refine n_lald C I eX12_compress64_219 (hN 13 (by decide)) rfl 6 (rfl : (6 : Int32) = nI 6) (by omega) (by decide) ?_
  refine v_lstore (lv' := [(0, .ref (ad 49)), (1, .long (S 0)), (3, .long (S 1)), (5, .long (S 2)), (7, .long (S 3)), (9, .long (S 4)), (11, .long (S 5)), (13, .long (S 6))]) C eX12_compress64_220 (by decide) [1, 2, 3, 4, 5, 6, 7, 0] rfl ?_
  refine v_aload_n C eX12_compress64_222 rfl 0 rfl ?_
  refine n_get C I fX12_48_X12 eX12_compress64_223 (hN 49 (by decide)) h49 rfl ?_
  refine v_bipush (v := (7 : Int32)) C eX12_compress64_226 (by decide) ?_
  refine n_lald C I eX12_compress64_228 (hN 13 (by decide)) rfl 7 (rfl : (7 : Int32) = nI 7) (by omega) (by decide) ?_
  refine v_lstore (lv' := [(0, .ref (ad 49)), (1, .long (S 0)), (3, .long (S 1)), (5, .long (S 2)), (7, .long (S 3)), (9, .long (S 4)), (11, .long (S 5)), (13, .long (S 6)), (15, .long (S 7))]) C eX12_compress64_229 (by decide) [1, 2, 3, 4, 5, 6, 7, 8, 0] rfl ?_
  refine v_iconst (v := (0 : Int32)) C eX12_compress64_231 (by decide) ?_
  refine v_istore (lv' := [(0, .ref (ad 49)), (1, .long (S 0)), (3, .long (S 1)), (5, .long (S 2)), (7, .long (S 3)), (9, .long (S 4)), (11, .long (S 5)), (13, .long (S 6)), (15, .long (S 7)), (17, .int ((0 : Int32)))]) C eX12_compress64_232 (by decide) [1, 2, 3, 4, 5, 6, 7, 8, 9, 0] rfl ?_
  refine v_forV (fun i => va_up (va_up σ 13 (eJ G 25 S)) 16 (eJ G 80 (c64W Bk w))) (fun i => [(0, .ref (ad 49)), (1, .long ((itN (c64R K (c64W Bk w)) i (S 0, S 1, S 2, S 3, S 4, S 5, S 6, S 7)).1)), (3, .long ((itN (c64R K (c64W Bk w)) i (S 0, S 1, S 2, S 3, S 4, S 5, S 6, S 7)).2.1)), (5, .long ((itN (c64R K (c64W Bk w)) i (S 0, S 1, S 2, S 3, S 4, S 5, S 6, S 7)).2.2.1)), (7, .long ((itN (c64R K (c64W Bk w)) i (S 0, S 1, S 2, S 3, S 4, S 5, S 6, S 7)).2.2.2.1)), (9, .long ((itN (c64R K (c64W Bk w)) i (S 0, S 1, S 2, S 3, S 4, S 5, S 6, S 7)).2.2.2.2.1)), (11, .long ((itN (c64R K (c64W Bk w)) i (S 0, S 1, S 2, S 3, S 4, S 5, S 6, S 7)).2.2.2.2.2.1)), (13, .long ((itN (c64R K (c64W Bk w)) i (S 0, S 1, S 2, S 3, S 4, S 5, S 6, S 7)).2.2.2.2.2.2.1)), (15, .long ((itN (c64R K (c64W Bk w)) i (S 0, S 1, S 2, S 3, S 4, S 5, S 6, S 7)).2.2.2.2.2.2.2)), (17, .int (nI i))]) 80 ?_ ?_
  · refine v_iload C eX12_compress64_234 9 rfl ?_
    refine v_bipush (v := (80 : Int32)) C eX12_compress64_236 (by decide) ?_
    refine v_icmp_ge (tgt := 377) C eX12_compress64_238 (by decide) (fun _ => ?_) (fun h => absurd (ix_le (a := 80) (b := 80) (rfl : (80 : Int32) = nI 80) (rfl : nI 80 = nI 80) (by omega) (by omega) (by omega)) h)
    refine v_pick (lv' := [(0, .ref (ad 49)), (1, .long ((itN (c64R K (c64W Bk w)) 80 (S 0, S 1, S 2, S 3, S 4, S 5, S 6, S 7)).1)), (3, .long ((itN (c64R K (c64W Bk w)) 80 (S 0, S 1, S 2, S 3, S 4, S 5, S 6, S 7)).2.1)), (5, .long ((itN (c64R K (c64W Bk w)) 80 (S 0, S 1, S 2, S 3, S 4, S 5, S 6, S 7)).2.2.1)), (7, .long ((itN (c64R K (c64W Bk w)) 80 (S 0, S 1, S 2, S 3, S 4, S 5, S 6, S 7)).2.2.2.1)), (9, .long ((itN (c64R K (c64W Bk w)) 80 (S 0, S 1, S 2, S 3, S 4, S 5, S 6, S 7)).2.2.2.2.1)), (11, .long ((itN (c64R K (c64W Bk w)) 80 (S 0, S 1, S 2, S 3, S 4, S 5, S 6, S 7)).2.2.2.2.2.1)), (13, .long ((itN (c64R K (c64W Bk w)) 80 (S 0, S 1, S 2, S 3, S 4, S 5, S 6, S 7)).2.2.2.2.2.2.1)), (15, .long ((itN (c64R K (c64W Bk w)) 80 (S 0, S 1, S 2, S 3, S 4, S 5, S 6, S 7)).2.2.2.2.2.2.2))]) [0, 1, 2, 3, 4, 5, 6, 7, 8] rfl ?_
    refine c64_5 I hN C h49 h17 h6 _ _ _ _ _ _ _ _ ?_
    exact n_vret C rfl eX12_compress64_465 ⟨rfl, rfl⟩
  · intro i hi ih
    refine v_iload C eX12_compress64_234 9 rfl ?_
    refine v_bipush (v := (80 : Int32)) C eX12_compress64_236 (by decide) ?_
    refine v_icmp_ge (tgt := 377) C eX12_compress64_238 (by decide) (fun h => absurd h (ix_nle (a := 80) (b := i) (rfl : (80 : Int32) = nI 80) (rfl : nI i = nI i) (by omega) (by omega) (by omega))) (fun _ => ?_)
    rw [show itN (c64R K (c64W Bk w)) (i + 1) (S 0, S 1, S 2, S 3, S 4, S 5, S 6, S 7) = c64R K (c64W Bk w) i (itN (c64R K (c64W Bk w)) i (S 0, S 1, S 2, S 3, S 4, S 5, S 6, S 7)) from rfl] at ih
    generalize itN (c64R K (c64W Bk w)) i (S 0, S 1, S 2, S 3, S 4, S 5, S 6, S 7) = q at ih ⊢
    obtain ⟨a0, b0, c0, d0, e0, f0, g0, h0⟩ := q
    exact c64_4 I hN C h49 h17 h6 i hi a0 b0 c0 d0 e0 f0 g0 h0 rfl (by decide) (by decide) (by decide) ih

end M2
end
section
theorem eX12_compress32_0 : vD cX12_compress32 0 (.iconst 0) 1 1 := ⟨by decide +kernel, rfl⟩
theorem eX12_compress32_1 : vD cX12_compress32 1 (.istore_n 1) 1 2 := ⟨by decide +kernel, rfl⟩
theorem eX12_compress32_2 : vD cX12_compress32 2 (.iload_n 1) 1 3 := ⟨by decide +kernel, rfl⟩
theorem eX12_compress32_3 : vD cX12_compress32 3 (.bipush 16) 2 5 := ⟨by decide +kernel, rfl⟩
theorem eX12_compress32_5 : vD cX12_compress32 5 (.if_icmp .ge 52) 3 8 := ⟨by decide +kernel, rfl⟩
theorem eX12_compress32_8 : vD cX12_compress32 8 (.iconst 0) 1 9 := ⟨by decide +kernel, rfl⟩
theorem eX12_compress32_9 : vD cX12_compress32 9 (.istore_n 2) 1 10 := ⟨by decide +kernel, rfl⟩
theorem eX12_compress32_10 : vD cX12_compress32 10 (.iconst 0) 1 11 := ⟨by decide +kernel, rfl⟩
theorem eX12_compress32_11 : vD cX12_compress32 11 (.istore_n 3) 1 12 := ⟨by decide +kernel, rfl⟩
theorem eX12_compress32_12 : vD cX12_compress32 12 (.iload_n 3) 1 13 := ⟨by decide +kernel, rfl⟩
theorem eX12_compress32_13 : vD cX12_compress32 13 (.iconst 4) 1 14 := ⟨by decide +kernel, rfl⟩
theorem eX12_compress32_14 : vD cX12_compress32 14 (.if_icmp .ge 29) 3 17 := ⟨by decide +kernel, rfl⟩
theorem eX12_compress32_17 : vD cX12_compress32 17 (.iload_n 2) 1 18 := ⟨by decide +kernel, rfl⟩
theorem eX12_compress32_18 : vD cX12_compress32 18 (.bipush 8) 2 20 := ⟨by decide +kernel, rfl⟩
theorem eX12_compress32_20 : vD cX12_compress32 20 .ishl 1 21 := ⟨by decide +kernel, rfl⟩
theorem eX12_compress32_21 : vD cX12_compress32 21 (.aload_n 0) 1 22 := ⟨by decide +kernel, rfl⟩
theorem eX12_compress32_22 : vD cX12_compress32 22 (.getfield 60) 3 25 := ⟨by decide +kernel, rfl⟩
theorem eX12_compress32_25 : vD cX12_compress32 25 (.iconst 4) 1 26 := ⟨by decide +kernel, rfl⟩
theorem eX12_compress32_26 : vD cX12_compress32 26 (.iload_n 1) 1 27 := ⟨by decide +kernel, rfl⟩
theorem eX12_compress32_27 : vD cX12_compress32 27 .imul 1 28 := ⟨by decide +kernel, rfl⟩
theorem eX12_compress32_28 : vD cX12_compress32 28 (.iload_n 3) 1 29 := ⟨by decide +kernel, rfl⟩
theorem eX12_compress32_29 : vD cX12_compress32 29 .iadd 1 30 := ⟨by decide +kernel, rfl⟩
theorem eX12_compress32_30 : vD cX12_compress32 30 .baload 1 31 := ⟨by decide +kernel, rfl⟩
theorem eX12_compress32_31 : vD cX12_compress32 31 (.sipush 255) 3 34 := ⟨by decide +kernel, rfl⟩
theorem eX12_compress32_34 : vD cX12_compress32 34 .iand 1 35 := ⟨by decide +kernel, rfl⟩
theorem eX12_compress32_35 : vD cX12_compress32 35 .ior 1 36 := ⟨by decide +kernel, rfl⟩
theorem eX12_compress32_36 : vD cX12_compress32 36 (.istore_n 2) 1 37 := ⟨by decide +kernel, rfl⟩
theorem eX12_compress32_37 : vD cX12_compress32 37 (.iinc 3 1) 3 40 := ⟨by decide +kernel, rfl⟩
theorem eX12_compress32_40 : vD cX12_compress32 40 (.goto (-28)) 3 43 := ⟨by decide +kernel, rfl⟩
theorem eX12_compress32_43 : vD cX12_compress32 43 (.aload_n 0) 1 44 := ⟨by decide +kernel, rfl⟩
theorem eX12_compress32_44 : vD cX12_compress32 44 (.getfield 57) 3 47 := ⟨by decide +kernel, rfl⟩
theorem eX12_compress32_47 : vD cX12_compress32 47 (.iload_n 1) 1 48 := ⟨by decide +kernel, rfl⟩
theorem eX12_compress32_48 : vD cX12_compress32 48 (.iload_n 2) 1 49 := ⟨by decide +kernel, rfl⟩
theorem eX12_compress32_49 : vD cX12_compress32 49 .i2l 1 50 := ⟨by decide +kernel, rfl⟩
theorem eX12_compress32_50 : vD cX12_compress32 50 .lastore 1 51 := ⟨by decide +kernel, rfl⟩
theorem eX12_compress32_51 : vD cX12_compress32 51 (.iinc 1 1) 3 54 := ⟨by decide +kernel, rfl⟩
theorem eX12_compress32_54 : vD cX12_compress32 54 (.goto (-52)) 3 57 := ⟨by decide +kernel, rfl⟩
theorem eX12_compress32_57 : vD cX12_compress32 57 (.bipush 16) 2 59 := ⟨by decide +kernel, rfl⟩
theorem eX12_compress32_59 : vD cX12_compress32 59 (.istore_n 1) 1 60 := ⟨by decide +kernel, rfl⟩
theorem eX12_compress32_60 : vD cX12_compress32 60 (.iload_n 1) 1 61 := ⟨by decide +kernel, rfl⟩
theorem eX12_compress32_61 : vD cX12_compress32 61 (.bipush 64) 2 63 := ⟨by decide +kernel, rfl⟩
theorem eX12_compress32_63 : vD cX12_compress32 63 (.if_icmp .ge 95) 3 66 := ⟨by decide +kernel, rfl⟩
theorem eX12_compress32_66 : vD cX12_compress32 66 (.aload_n 0) 1 67 := ⟨by decide +kernel, rfl⟩
theorem eX12_compress32_67 : vD cX12_compress32 67 (.getfield 57) 3 70 := ⟨by decide +kernel, rfl⟩
theorem eX12_compress32_70 : vD cX12_compress32 70 (.iload_n 1) 1 71 := ⟨by decide +kernel, rfl⟩
theorem eX12_compress32_71 : vD cX12_compress32 71 (.iconst 2) 1 72 := ⟨by decide +kernel, rfl⟩
theorem eX12_compress32_72 : vD cX12_compress32 72 .isub 1 73 := ⟨by decide +kernel, rfl⟩
theorem eX12_compress32_73 : vD cX12_compress32 73 .laload 1 74 := ⟨by decide +kernel, rfl⟩
theorem eX12_compress32_74 : vD cX12_compress32 74 .l2i 1 75 := ⟨by decide +kernel, rfl⟩
theorem eX12_compress32_75 : vD cX12_compress32 75 (.istore_n 2) 1 76 := ⟨by decide +kernel, rfl⟩
theorem eX12_compress32_76 : vD cX12_compress32 76 (.aload_n 0) 1 77 := ⟨by decide +kernel, rfl⟩
theorem eX12_compress32_77 : vD cX12_compress32 77 (.getfield 57) 3 80 := ⟨by decide +kernel, rfl⟩
theorem eX12_compress32_80 : vD cX12_compress32 80 (.iload_n 1) 1 81 := ⟨by decide +kernel, rfl⟩
theorem eX12_compress32_81 : vD cX12_compress32 81 (.bipush 15) 2 83 := ⟨by decide +kernel, rfl⟩
theorem eX12_compress32_83 : vD cX12_compress32 83 .isub 1 84 := ⟨by decide +kernel, rfl⟩
theorem eX12_compress32_84 : vD cX12_compress32 84 .laload 1 85 := ⟨by decide +kernel, rfl⟩
theorem eX12_compress32_85 : vD cX12_compress32 85 .l2i 1 86 := ⟨by decide +kernel, rfl⟩
theorem eX12_compress32_86 : vD cX12_compress32 86 (.istore_n 3) 1 87 := ⟨by decide +kernel, rfl⟩
theorem eX12_compress32_87 : vD cX12_compress32 87 (.aload_n 0) 1 88 := ⟨by decide +kernel, rfl⟩
theorem eX12_compress32_88 : vD cX12_compress32 88 (.getfield 57) 3 91 := ⟨by decide +kernel, rfl⟩
theorem eX12_compress32_91 : vD cX12_compress32 91 (.iload_n 1) 1 92 := ⟨by decide +kernel, rfl⟩
theorem eX12_compress32_92 : vD cX12_compress32 92 (.iload_n 2) 1 93 := ⟨by decide +kernel, rfl⟩
theorem eX12_compress32_93 : vD cX12_compress32 93 (.bipush 17) 2 95 := ⟨by decide +kernel, rfl⟩
theorem eX12_compress32_95 : vD cX12_compress32 95 (.invokestatic 224) 3 98 := ⟨by decide +kernel, rfl⟩
theorem eX12_compress32_98 : vD cX12_compress32 98 (.iload_n 2) 1 99 := ⟨by decide +kernel, rfl⟩
theorem eX12_compress32_99 : vD cX12_compress32 99 (.bipush 19) 2 101 := ⟨by decide +kernel, rfl⟩
theorem eX12_compress32_101 : vD cX12_compress32 101 (.invokestatic 224) 3 104 := ⟨by decide +kernel, rfl⟩
theorem eX12_compress32_104 : vD cX12_compress32 104 .ixor 1 105 := ⟨by decide +kernel, rfl⟩
theorem eX12_compress32_105 : vD cX12_compress32 105 (.iload_n 2) 1 106 := ⟨by decide +kernel, rfl⟩
theorem eX12_compress32_106 : vD cX12_compress32 106 (.bipush 10) 2 108 := ⟨by decide +kernel, rfl⟩
theorem eX12_compress32_108 : vD cX12_compress32 108 .iushr 1 109 := ⟨by decide +kernel, rfl⟩
theorem eX12_compress32_109 : vD cX12_compress32 109 .ixor 1 110 := ⟨by decide +kernel, rfl⟩
theorem eX12_compress32_110 : vD cX12_compress32 110 (.aload_n 0) 1 111 := ⟨by decide +kernel, rfl⟩
theorem eX12_compress32_111 : vD cX12_compress32 111 (.getfield 57) 3 114 := ⟨by decide +kernel, rfl⟩
theorem eX12_compress32_114 : vD cX12_compress32 114 (.iload_n 1) 1 115 := ⟨by decide +kernel, rfl⟩
theorem eX12_compress32_115 : vD cX12_compress32 115 (.bipush 7) 2 117 := ⟨by decide +kernel, rfl⟩
theorem eX12_compress32_117 : vD cX12_compress32 117 .isub 1 118 := ⟨by decide +kernel, rfl⟩
theorem eX12_compress32_118 : vD cX12_compress32 118 .laload 1 119 := ⟨by decide +kernel, rfl⟩
theorem eX12_compress32_119 : vD cX12_compress32 119 .l2i 1 120 := ⟨by decide +kernel, rfl⟩
theorem eX12_compress32_120 : vD cX12_compress32 120 .iadd 1 121 := ⟨by decide +kernel, rfl⟩
theorem eX12_compress32_121 : vD cX12_compress32 121 (.iload_n 3) 1 122 := ⟨by decide +kernel, rfl⟩
theorem eX12_compress32_122 : vD cX12_compress32 122 (.bipush 7) 2 124 := ⟨by decide +kernel, rfl⟩
theorem eX12_compress32_124 : vD cX12_compress32 124 (.invokestatic 224) 3 127 := ⟨by decide +kernel, rfl⟩
theorem eX12_compress32_127 : vD cX12_compress32 127 (.iload_n 3) 1 128 := ⟨by decide +kernel, rfl⟩
theorem eX12_compress32_128 : vD cX12_compress32 128 (.bipush 18) 2 130 := ⟨by decide +kernel, rfl⟩
theorem eX12_compress32_130 : vD cX12_compress32 130 (.invokestatic 224) 3 133 := ⟨by decide +kernel, rfl⟩
theorem eX12_compress32_133 : vD cX12_compress32 133 .ixor 1 134 := ⟨by decide +kernel, rfl⟩
theorem eX12_compress32_134 : vD cX12_compress32 134 (.iload_n 3) 1 135 := ⟨by decide +kernel, rfl⟩
theorem eX12_compress32_135 : vD cX12_compress32 135 (.iconst 3) 1 136 := ⟨by decide +kernel, rfl⟩
theorem eX12_compress32_136 : vD cX12_compress32 136 .iushr 1 137 := ⟨by decide +kernel, rfl⟩
theorem eX12_compress32_137 : vD cX12_compress32 137 .ixor 1 138 := ⟨by decide +kernel, rfl⟩
theorem eX12_compress32_138 : vD cX12_compress32 138 .iadd 1 139 := ⟨by decide +kernel, rfl⟩
theorem eX12_compress32_139 : vD cX12_compress32 139 (.aload_n 0) 1 140 := ⟨by decide +kernel, rfl⟩
theorem eX12_compress32_140 : vD cX12_compress32 140 (.getfield 57) 3 143 := ⟨by decide +kernel, rfl⟩
theorem eX12_compress32_143 : vD cX12_compress32 143 (.iload_n 1) 1 144 := ⟨by decide +kernel, rfl⟩
theorem eX12_compress32_144 : vD cX12_compress32 144 (.bipush 16) 2 146 := ⟨by decide +kernel, rfl⟩
theorem eX12_compress32_146 : vD cX12_compress32 146 .isub 1 147 := ⟨by decide +kernel, rfl⟩
theorem eX12_compress32_147 : vD cX12_compress32 147 .laload 1 148 := ⟨by decide +kernel, rfl⟩
theorem eX12_compress32_148 : vD cX12_compress32 148 .l2i 1 149 := ⟨by decide +kernel, rfl⟩
theorem eX12_compress32_149 : vD cX12_compress32 149 .iadd 1 150 := ⟨by decide +kernel, rfl⟩
theorem eX12_compress32_150 : vD cX12_compress32 150 .i2l 1 151 := ⟨by decide +kernel, rfl⟩
theorem eX12_compress32_151 : vD cX12_compress32 151 .lastore 1 152 := ⟨by decide +kernel, rfl⟩
theorem eX12_compress32_152 : vD cX12_compress32 152 (.iinc 1 1) 3 155 := ⟨by decide +kernel, rfl⟩
theorem eX12_compress32_155 : vD cX12_compress32 155 (.goto (-95)) 3 158 := ⟨by decide +kernel, rfl⟩
theorem eX12_compress32_158 : vD cX12_compress32 158 (.aload_n 0) 1 159 := ⟨by decide +kernel, rfl⟩
theorem eX12_compress32_159 : vD cX12_compress32 159 (.getfield 48) 3 162 := ⟨by decide +kernel, rfl⟩
theorem eX12_compress32_162 : vD cX12_compress32 162 (.iconst 0) 1 163 := ⟨by decide +kernel, rfl⟩
theorem eX12_compress32_163 : vD cX12_compress32 163 .laload 1 164 := ⟨by decide +kernel, rfl⟩
theorem eX12_compress32_164 : vD cX12_compress32 164 .l2i 1 165 := ⟨by decide +kernel, rfl⟩
theorem eX12_compress32_165 : vD cX12_compress32 165 (.istore_n 1) 1 166 := ⟨by decide +kernel, rfl⟩
theorem eX12_compress32_166 : vD cX12_compress32 166 (.aload_n 0) 1 167 := ⟨by decide +kernel, rfl⟩
theorem eX12_compress32_167 : vD cX12_compress32 167 (.getfield 48) 3 170 := ⟨by decide +kernel, rfl⟩
theorem eX12_compress32_170 : vD cX12_compress32 170 (.iconst 1) 1 171 := ⟨by decide +kernel, rfl⟩
theorem eX12_compress32_171 : vD cX12_compress32 171 .laload 1 172 := ⟨by decide +kernel, rfl⟩
theorem eX12_compress32_172 : vD cX12_compress32 172 .l2i 1 173 := ⟨by decide +kernel, rfl⟩
theorem eX12_compress32_173 : vD cX12_compress32 173 (.istore_n 2) 1 174 := ⟨by decide +kernel, rfl⟩
theorem eX12_compress32_174 : vD cX12_compress32 174 (.aload_n 0) 1 175 := ⟨by decide +kernel, rfl⟩
theorem eX12_compress32_175 : vD cX12_compress32 175 (.getfield 48) 3 178 := ⟨by decide +kernel, rfl⟩
theorem eX12_compress32_178 : vD cX12_compress32 178 (.iconst 2) 1 179 := ⟨by decide +kernel, rfl⟩
theorem eX12_compress32_179 : vD cX12_compress32 179 .laload 1 180 := ⟨by decide +kernel, rfl⟩
theorem eX12_compress32_180 : vD cX12_compress32 180 .l2i 1 181 := ⟨by decide +kernel, rfl⟩
theorem eX12_compress32_181 : vD cX12_compress32 181 (.istore_n 3) 1 182 := ⟨by decide +kernel, rfl⟩
theorem eX12_compress32_182 : vD cX12_compress32 182 (.aload_n 0) 1 183 := ⟨by decide +kernel, rfl⟩
theorem eX12_compress32_183 : vD cX12_compress32 183 (.getfield 48) 3 186 := ⟨by decide +kernel, rfl⟩
theorem eX12_compress32_186 : vD cX12_compress32 186 (.iconst 3) 1 187 := ⟨by decide +kernel, rfl⟩
theorem eX12_compress32_187 : vD cX12_compress32 187 .laload 1 188 := ⟨by decide +kernel, rfl⟩
theorem eX12_compress32_188 : vD cX12_compress32 188 .l2i 1 189 := ⟨by decide +kernel, rfl⟩
theorem eX12_compress32_189 : vD cX12_compress32 189 (.istore 4) 2 191 := ⟨by decide +kernel, rfl⟩
theorem eX12_compress32_191 : vD cX12_compress32 191 (.aload_n 0) 1 192 := ⟨by decide +kernel, rfl⟩
theorem eX12_compress32_192 : vD cX12_compress32 192 (.getfield 48) 3 195 := ⟨by decide +kernel, rfl⟩
theorem eX12_compress32_195 : vD cX12_compress32 195 (.iconst 4) 1 196 := ⟨by decide +kernel, rfl⟩
theorem eX12_compress32_196 : vD cX12_compress32 196 .laload 1 197 := ⟨by decide +kernel, rfl⟩
theorem eX12_compress32_197 : vD cX12_compress32 197 .l2i 1 198 := ⟨by decide +kernel, rfl⟩
theorem eX12_compress32_198 : vD cX12_compress32 198 (.istore 5) 2 200 := ⟨by decide +kernel, rfl⟩
theorem eX12_compress32_200 : vD cX12_compress32 200 (.aload_n 0) 1 201 := ⟨by decide +kernel, rfl⟩
theorem eX12_compress32_201 : vD cX12_compress32 201 (.getfield 48) 3 204 := ⟨by decide +kernel, rfl⟩
theorem eX12_compress32_204 : vD cX12_compress32 204 (.iconst 5) 1 205 := ⟨by decide +kernel, rfl⟩
theorem eX12_compress32_205 : vD cX12_compress32 205 .laload 1 206 := ⟨by decide +kernel, rfl⟩
theorem eX12_compress32_206 : vD cX12_compress32 206 .l2i 1 207 := ⟨by decide +kernel, rfl⟩
theorem eX12_compress32_207 : vD cX12_compress32 207 (.istore 6) 2 209 := ⟨by decide +kernel, rfl⟩
theorem eX12_compress32_209 : vD cX12_compress32 209 (.aload_n 0) 1 210 := ⟨by decide +kernel, rfl⟩
theorem eX12_compress32_210 : vD cX12_compress32 210 (.getfield 48) 3 213 := ⟨by decide +kernel, rfl⟩
theorem eX12_compress32_213 : vD cX12_compress32 213 (.bipush 6) 2 215 := ⟨by decide +kernel, rfl⟩
theorem eX12_compress32_215 : vD cX12_compress32 215 .laload 1 216 := ⟨by decide +kernel, rfl⟩
theorem eX12_compress32_216 : vD cX12_compress32 216 .l2i 1 217 := ⟨by decide +kernel, rfl⟩
theorem eX12_compress32_217 : vD cX12_compress32 217 (.istore 7) 2 219 := ⟨by decide +kernel, rfl⟩
theorem eX12_compress32_219 : vD cX12_compress32 219 (.aload_n 0) 1 220 := ⟨by decide +kernel, rfl⟩
theorem eX12_compress32_220 : vD cX12_compress32 220 (.getfield 48) 3 223 := ⟨by decide +kernel, rfl⟩
theorem eX12_compress32_223 : vD cX12_compress32 223 (.bipush 7) 2 225 := ⟨by decide +kernel, rfl⟩
theorem eX12_compress32_225 : vD cX12_compress32 225 .laload 1 226 := ⟨by decide +kernel, rfl⟩
theorem eX12_compress32_226 : vD cX12_compress32 226 .l2i 1 227 := ⟨by decide +kernel, rfl⟩
theorem eX12_compress32_227 : vD cX12_compress32 227 (.istore 8) 2 229 := ⟨by decide +kernel, rfl⟩
theorem eX12_compress32_229 : vD cX12_compress32 229 (.iconst 0) 1 230 := ⟨by decide +kernel, rfl⟩
theorem eX12_compress32_230 : vD cX12_compress32 230 (.istore 9) 2 232 := ⟨by decide +kernel, rfl⟩
theorem eX12_compress32_232 : vD cX12_compress32 232 (.iload 9) 2 234 := ⟨by decide +kernel, rfl⟩
theorem eX12_compress32_234 : vD cX12_compress32 234 (.bipush 64) 2 236 := ⟨by decide +kernel, rfl⟩
theorem eX12_compress32_236 : vD cX12_compress32 236 (.if_icmp .ge 137) 3 239 := ⟨by decide +kernel, rfl⟩
theorem eX12_compress32_239 : vD cX12_compress32 239 (.iload 8) 2 241 := ⟨by decide +kernel, rfl⟩
theorem eX12_compress32_241 : vD cX12_compress32 241 (.iload 5) 2 243 := ⟨by decide +kernel, rfl⟩
theorem eX12_compress32_243 : vD cX12_compress32 243 (.bipush 6) 2 245 := ⟨by decide +kernel, rfl⟩
theorem eX12_compress32_245 : vD cX12_compress32 245 (.invokestatic 224) 3 248 := ⟨by decide +kernel, rfl⟩
theorem eX12_compress32_248 : vD cX12_compress32 248 (.iload 5) 2 250 := ⟨by decide +kernel, rfl⟩
theorem eX12_compress32_250 : vD cX12_compress32 250 (.bipush 11) 2 252 := ⟨by decide +kernel, rfl⟩
theorem eX12_compress32_252 : vD cX12_compress32 252 (.invokestatic 224) 3 255 := ⟨by decide +kernel, rfl⟩
theorem eX12_compress32_255 : vD cX12_compress32 255 .ixor 1 256 := ⟨by decide +kernel, rfl⟩
theorem eX12_compress32_256 : vD cX12_compress32 256 (.iload 5) 2 258 := ⟨by decide +kernel, rfl⟩
theorem eX12_compress32_258 : vD cX12_compress32 258 (.bipush 25) 2 260 := ⟨by decide +kernel, rfl⟩
theorem eX12_compress32_260 : vD cX12_compress32 260 (.invokestatic 224) 3 263 := ⟨by decide +kernel, rfl⟩
theorem eX12_compress32_263 : vD cX12_compress32 263 .ixor 1 264 := ⟨by decide +kernel, rfl⟩
theorem eX12_compress32_264 : vD cX12_compress32 264 .iadd 1 265 := ⟨by decide +kernel, rfl⟩
theorem eX12_compress32_265 : vD cX12_compress32 265 (.iload 5) 2 267 := ⟨by decide +kernel, rfl⟩
theorem eX12_compress32_267 : vD cX12_compress32 267 (.iload 6) 2 269 := ⟨by decide +kernel, rfl⟩
theorem eX12_compress32_269 : vD cX12_compress32 269 .iand 1 270 := ⟨by decide +kernel, rfl⟩
theorem eX12_compress32_270 : vD cX12_compress32 270 (.iload 5) 2 272 := ⟨by decide +kernel, rfl⟩
theorem eX12_compress32_272 : vD cX12_compress32 272 (.iconst (-1)) 1 273 := ⟨by decide +kernel, rfl⟩
theorem eX12_compress32_273 : vD cX12_compress32 273 .ixor 1 274 := ⟨by decide +kernel, rfl⟩
theorem eX12_compress32_274 : vD cX12_compress32 274 (.iload 7) 2 276 := ⟨by decide +kernel, rfl⟩
theorem eX12_compress32_276 : vD cX12_compress32 276 .iand 1 277 := ⟨by decide +kernel, rfl⟩
theorem eX12_compress32_277 : vD cX12_compress32 277 .ixor 1 278 := ⟨by decide +kernel, rfl⟩
theorem eX12_compress32_278 : vD cX12_compress32 278 .iadd 1 279 := ⟨by decide +kernel, rfl⟩
theorem eX12_compress32_279 : vD cX12_compress32 279 (.aload_n 0) 1 280 := ⟨by decide +kernel, rfl⟩
theorem eX12_compress32_280 : vD cX12_compress32 280 (.getfield 27) 3 283 := ⟨by decide +kernel, rfl⟩
theorem eX12_compress32_283 : vD cX12_compress32 283 (.iload 9) 2 285 := ⟨by decide +kernel, rfl⟩
theorem eX12_compress32_285 : vD cX12_compress32 285 .laload 1 286 := ⟨by decide +kernel, rfl⟩
theorem eX12_compress32_286 : vD cX12_compress32 286 (.bipush 32) 2 288 := ⟨by decide +kernel, rfl⟩
theorem eX12_compress32_288 : vD cX12_compress32 288 .lushr 1 289 := ⟨by decide +kernel, rfl⟩
theorem eX12_compress32_289 : vD cX12_compress32 289 .l2i 1 290 := ⟨by decide +kernel, rfl⟩
theorem eX12_compress32_290 : vD cX12_compress32 290 .iadd 1 291 := ⟨by decide +kernel, rfl⟩
theorem eX12_compress32_291 : vD cX12_compress32 291 (.aload_n 0) 1 292 := ⟨by decide +kernel, rfl⟩
theorem eX12_compress32_292 : vD cX12_compress32 292 (.getfield 57) 3 295 := ⟨by decide +kernel, rfl⟩
theorem eX12_compress32_295 : vD cX12_compress32 295 (.iload 9) 2 297 := ⟨by decide +kernel, rfl⟩
theorem eX12_compress32_297 : vD cX12_compress32 297 .laload 1 298 := ⟨by decide +kernel, rfl⟩
theorem eX12_compress32_298 : vD cX12_compress32 298 .l2i 1 299 := ⟨by decide +kernel, rfl⟩
theorem eX12_compress32_299 : vD cX12_compress32 299 .iadd 1 300 := ⟨by decide +kernel, rfl⟩
theorem eX12_compress32_300 : vD cX12_compress32 300 (.istore 10) 2 302 := ⟨by decide +kernel, rfl⟩
theorem eX12_compress32_302 : vD cX12_compress32 302 (.iload_n 1) 1 303 := ⟨by decide +kernel, rfl⟩
theorem eX12_compress32_303 : vD cX12_compress32 303 (.iconst 2) 1 304 := ⟨by decide +kernel, rfl⟩
theorem eX12_compress32_304 : vD cX12_compress32 304 (.invokestatic 224) 3 307 := ⟨by decide +kernel, rfl⟩
theorem eX12_compress32_307 : vD cX12_compress32 307 (.iload_n 1) 1 308 := ⟨by decide +kernel, rfl⟩
theorem eX12_compress32_308 : vD cX12_compress32 308 (.bipush 13) 2 310 := ⟨by decide +kernel, rfl⟩
theorem eX12_compress32_310 : vD cX12_compress32 310 (.invokestatic 224) 3 313 := ⟨by decide +kernel, rfl⟩
theorem eX12_compress32_313 : vD cX12_compress32 313 .ixor 1 314 := ⟨by decide +kernel, rfl⟩
theorem eX12_compress32_314 : vD cX12_compress32 314 (.iload_n 1) 1 315 := ⟨by decide +kernel, rfl⟩
theorem eX12_compress32_315 : vD cX12_compress32 315 (.bipush 22) 2 317 := ⟨by decide +kernel, rfl⟩
theorem eX12_compress32_317 : vD cX12_compress32 317 (.invokestatic 224) 3 320 := ⟨by decide +kernel, rfl⟩
theorem eX12_compress32_320 : vD cX12_compress32 320 .ixor 1 321 := ⟨by decide +kernel, rfl⟩
theorem eX12_compress32_321 : vD cX12_compress32 321 (.iload_n 1) 1 322 := ⟨by decide +kernel, rfl⟩
theorem eX12_compress32_322 : vD cX12_compress32 322 (.iload_n 2) 1 323 := ⟨by decide +kernel, rfl⟩
theorem eX12_compress32_323 : vD cX12_compress32 323 .iand 1 324 := ⟨by decide +kernel, rfl⟩
theorem eX12_compress32_324 : vD cX12_compress32 324 (.iload_n 1) 1 325 := ⟨by decide +kernel, rfl⟩
theorem eX12_compress32_325 : vD cX12_compress32 325 (.iload_n 3) 1 326 := ⟨by decide +kernel, rfl⟩
theorem eX12_compress32_326 : vD cX12_compress32 326 .iand 1 327 := ⟨by decide +kernel, rfl⟩
theorem eX12_compress32_327 : vD cX12_compress32 327 .ixor 1 328 := ⟨by decide +kernel, rfl⟩
theorem eX12_compress32_328 : vD cX12_compress32 328 (.iload_n 2) 1 329 := ⟨by decide +kernel, rfl⟩
theorem eX12_compress32_329 : vD cX12_compress32 329 (.iload_n 3) 1 330 := ⟨by decide +kernel, rfl⟩
theorem eX12_compress32_330 : vD cX12_compress32 330 .iand 1 331 := ⟨by decide +kernel, rfl⟩
theorem eX12_compress32_331 : vD cX12_compress32 331 .ixor 1 332 := ⟨by decide +kernel, rfl⟩
theorem eX12_compress32_332 : vD cX12_compress32 332 .iadd 1 333 := ⟨by decide +kernel, rfl⟩
theorem eX12_compress32_333 : vD cX12_compress32 333 (.istore 11) 2 335 := ⟨by decide +kernel, rfl⟩
theorem eX12_compress32_335 : vD cX12_compress32 335 (.iload 7) 2 337 := ⟨by decide +kernel, rfl⟩
theorem eX12_compress32_337 : vD cX12_compress32 337 (.istore 8) 2 339 := ⟨by decide +kernel, rfl⟩
theorem eX12_compress32_339 : vD cX12_compress32 339 (.iload 6) 2 341 := ⟨by decide +kernel, rfl⟩
theorem eX12_compress32_341 : vD cX12_compress32 341 (.istore 7) 2 343 := ⟨by decide +kernel, rfl⟩
theorem eX12_compress32_343 : vD cX12_compress32 343 (.iload 5) 2 345 := ⟨by decide +kernel, rfl⟩
theorem eX12_compress32_345 : vD cX12_compress32 345 (.istore 6) 2 347 := ⟨by decide +kernel, rfl⟩
theorem eX12_compress32_347 : vD cX12_compress32 347 (.iload 4) 2 349 := ⟨by decide +kernel, rfl⟩
theorem eX12_compress32_349 : vD cX12_compress32 349 (.iload 10) 2 351 := ⟨by decide +kernel, rfl⟩
theorem eX12_compress32_351 : vD cX12_compress32 351 .iadd 1 352 := ⟨by decide +kernel, rfl⟩
theorem eX12_compress32_352 : vD cX12_compress32 352 (.istore 5) 2 354 := ⟨by decide +kernel, rfl⟩
theorem eX12_compress32_354 : vD cX12_compress32 354 (.iload_n 3) 1 355 := ⟨by decide +kernel, rfl⟩
theorem eX12_compress32_355 : vD cX12_compress32 355 (.istore 4) 2 357 := ⟨by decide +kernel, rfl⟩
theorem eX12_compress32_357 : vD cX12_compress32 357 (.iload_n 2) 1 358 := ⟨by decide +kernel, rfl⟩
theorem eX12_compress32_358 : vD cX12_compress32 358 (.istore_n 3) 1 359 := ⟨by decide +kernel, rfl⟩
theorem eX12_compress32_359 : vD cX12_compress32 359 (.iload_n 1) 1 360 := ⟨by decide +kernel, rfl⟩
theorem eX12_compress32_360 : vD cX12_compress32 360 (.istore_n 2) 1 361 := ⟨by decide +kernel, rfl⟩
theorem eX12_compress32_361 : vD cX12_compress32 361 (.iload 10) 2 363 := ⟨by decide +kernel, rfl⟩
theorem eX12_compress32_363 : vD cX12_compress32 363 (.iload 11) 2 365 := ⟨by decide +kernel, rfl⟩
theorem eX12_compress32_365 : vD cX12_compress32 365 .iadd 1 366 := ⟨by decide +kernel, rfl⟩
theorem eX12_compress32_366 : vD cX12_compress32 366 (.istore_n 1) 1 367 := ⟨by decide +kernel, rfl⟩
theorem eX12_compress32_367 : vD cX12_compress32 367 (.iinc 9 1) 3 370 := ⟨by decide +kernel, rfl⟩
theorem eX12_compress32_370 : vD cX12_compress32 370 (.goto (-138)) 3 373 := ⟨by decide +kernel, rfl⟩
theorem eX12_compress32_373 : vD cX12_compress32 373 (.aload_n 0) 1 374 := ⟨by decide +kernel, rfl⟩
theorem eX12_compress32_374 : vD cX12_compress32 374 (.getfield 48) 3 377 := ⟨by decide +kernel, rfl⟩
theorem eX12_compress32_377 : vD cX12_compress32 377 (.iconst 0) 1 378 := ⟨by decide +kernel, rfl⟩
theorem eX12_compress32_378 : vD cX12_compress32 378 .dup2 1 379 := ⟨by decide +kernel, rfl⟩
theorem eX12_compress32_379 : vD cX12_compress32 379 .laload 1 380 := ⟨by decide +kernel, rfl⟩
theorem eX12_compress32_380 : vD cX12_compress32 380 (.iload_n 1) 1 381 := ⟨by decide +kernel, rfl⟩
theorem eX12_compress32_381 : vD cX12_compress32 381 .i2l 1 382 := ⟨by decide +kernel, rfl⟩
theorem eX12_compress32_382 : vD cX12_compress32 382 .ladd 1 383 := ⟨by decide +kernel, rfl⟩
theorem eX12_compress32_383 : vD cX12_compress32 383 .lastore 1 384 := ⟨by decide +kernel, rfl⟩
theorem eX12_compress32_384 : vD cX12_compress32 384 (.aload_n 0) 1 385 := ⟨by decide +kernel, rfl⟩
theorem eX12_compress32_385 : vD cX12_compress32 385 (.getfield 48) 3 388 := ⟨by decide +kernel, rfl⟩
theorem eX12_compress32_388 : vD cX12_compress32 388 (.iconst 1) 1 389 := ⟨by decide +kernel, rfl⟩
theorem eX12_compress32_389 : vD cX12_compress32 389 .dup2 1 390 := ⟨by decide +kernel, rfl⟩
theorem eX12_compress32_390 : vD cX12_compress32 390 .laload 1 391 := ⟨by decide +kernel, rfl⟩
theorem eX12_compress32_391 : vD cX12_compress32 391 (.iload_n 2) 1 392 := ⟨by decide +kernel, rfl⟩
theorem eX12_compress32_392 : vD cX12_compress32 392 .i2l 1 393 := ⟨by decide +kernel, rfl⟩
theorem eX12_compress32_393 : vD cX12_compress32 393 .ladd 1 394 := ⟨by decide +kernel, rfl⟩
theorem eX12_compress32_394 : vD cX12_compress32 394 .lastore 1 395 := ⟨by decide +kernel, rfl⟩
theorem eX12_compress32_395 : vD cX12_compress32 395 (.aload_n 0) 1 396 := ⟨by decide +kernel, rfl⟩
theorem eX12_compress32_396 : vD cX12_compress32 396 (.getfield 48) 3 399 := ⟨by decide +kernel, rfl⟩
theorem eX12_compress32_399 : vD cX12_compress32 399 (.iconst 2) 1 400 := ⟨by decide +kernel, rfl⟩
theorem eX12_compress32_400 : vD cX12_compress32 400 .dup2 1 401 := ⟨by decide +kernel, rfl⟩
theorem eX12_compress32_401 : vD cX12_compress32 401 .laload 1 402 := ⟨by decide +kernel, rfl⟩
theorem eX12_compress32_402 : vD cX12_compress32 402 (.iload_n 3) 1 403 := ⟨by decide +kernel, rfl⟩
theorem eX12_compress32_403 : vD cX12_compress32 403 .i2l 1 404 := ⟨by decide +kernel, rfl⟩
theorem eX12_compress32_404 : vD cX12_compress32 404 .ladd 1 405 := ⟨by decide +kernel, rfl⟩
theorem eX12_compress32_405 : vD cX12_compress32 405 .lastore 1 406 := ⟨by decide +kernel, rfl⟩
theorem eX12_compress32_406 : vD cX12_compress32 406 (.aload_n 0) 1 407 := ⟨by decide +kernel, rfl⟩
theorem eX12_compress32_407 : vD cX12_compress32 407 (.getfield 48) 3 410 := ⟨by decide +kernel, rfl⟩
theorem eX12_compress32_410 : vD cX12_compress32 410 (.iconst 3) 1 411 := ⟨by decide +kernel, rfl⟩
theorem eX12_compress32_411 : vD cX12_compress32 411 .dup2 1 412 := ⟨by decide +kernel, rfl⟩
theorem eX12_compress32_412 : vD cX12_compress32 412 .laload 1 413 := ⟨by decide +kernel, rfl⟩
theorem eX12_compress32_413 : vD cX12_compress32 413 (.iload 4) 2 415 := ⟨by decide +kernel, rfl⟩
theorem eX12_compress32_415 : vD cX12_compress32 415 .i2l 1 416 := ⟨by decide +kernel, rfl⟩
theorem eX12_compress32_416 : vD cX12_compress32 416 .ladd 1 417 := ⟨by decide +kernel, rfl⟩
theorem eX12_compress32_417 : vD cX12_compress32 417 .lastore 1 418 := ⟨by decide +kernel, rfl⟩
theorem eX12_compress32_418 : vD cX12_compress32 418 (.aload_n 0) 1 419 := ⟨by decide +kernel, rfl⟩
theorem eX12_compress32_419 : vD cX12_compress32 419 (.getfield 48) 3 422 := ⟨by decide +kernel, rfl⟩
theorem eX12_compress32_422 : vD cX12_compress32 422 (.iconst 4) 1 423 := ⟨by decide +kernel, rfl⟩
theorem eX12_compress32_423 : vD cX12_compress32 423 .dup2 1 424 := ⟨by decide +kernel, rfl⟩
theorem eX12_compress32_424 : vD cX12_compress32 424 .laload 1 425 := ⟨by decide +kernel, rfl⟩
theorem eX12_compress32_425 : vD cX12_compress32 425 (.iload 5) 2 427 := ⟨by decide +kernel, rfl⟩
theorem eX12_compress32_427 : vD cX12_compress32 427 .i2l 1 428 := ⟨by decide +kernel, rfl⟩
theorem eX12_compress32_428 : vD cX12_compress32 428 .ladd 1 429 := ⟨by decide +kernel, rfl⟩
theorem eX12_compress32_429 : vD cX12_compress32 429 .lastore 1 430 := ⟨by decide +kernel, rfl⟩
theorem eX12_compress32_430 : vD cX12_compress32 430 (.aload_n 0) 1 431 := ⟨by decide +kernel, rfl⟩
theorem eX12_compress32_431 : vD cX12_compress32 431 (.getfield 48) 3 434 := ⟨by decide +kernel, rfl⟩
theorem eX12_compress32_434 : vD cX12_compress32 434 (.iconst 5) 1 435 := ⟨by decide +kernel, rfl⟩
theorem eX12_compress32_435 : vD cX12_compress32 435 .dup2 1 436 := ⟨by decide +kernel, rfl⟩
theorem eX12_compress32_436 : vD cX12_compress32 436 .laload 1 437 := ⟨by decide +kernel, rfl⟩
theorem eX12_compress32_437 : vD cX12_compress32 437 (.iload 6) 2 439 := ⟨by decide +kernel, rfl⟩
theorem eX12_compress32_439 : vD cX12_compress32 439 .i2l 1 440 := ⟨by decide +kernel, rfl⟩
theorem eX12_compress32_440 : vD cX12_compress32 440 .ladd 1 441 := ⟨by decide +kernel, rfl⟩
theorem eX12_compress32_441 : vD cX12_compress32 441 .lastore 1 442 := ⟨by decide +kernel, rfl⟩
theorem eX12_compress32_442 : vD cX12_compress32 442 (.aload_n 0) 1 443 := ⟨by decide +kernel, rfl⟩
theorem eX12_compress32_443 : vD cX12_compress32 443 (.getfield 48) 3 446 := ⟨by decide +kernel, rfl⟩
theorem eX12_compress32_446 : vD cX12_compress32 446 (.bipush 6) 2 448 := ⟨by decide +kernel, rfl⟩
theorem eX12_compress32_448 : vD cX12_compress32 448 .dup2 1 449 := ⟨by decide +kernel, rfl⟩
theorem eX12_compress32_449 : vD cX12_compress32 449 .laload 1 450 := ⟨by decide +kernel, rfl⟩
theorem eX12_compress32_450 : vD cX12_compress32 450 (.iload 7) 2 452 := ⟨by decide +kernel, rfl⟩
theorem eX12_compress32_452 : vD cX12_compress32 452 .i2l 1 453 := ⟨by decide +kernel, rfl⟩
theorem eX12_compress32_453 : vD cX12_compress32 453 .ladd 1 454 := ⟨by decide +kernel, rfl⟩
theorem eX12_compress32_454 : vD cX12_compress32 454 .lastore 1 455 := ⟨by decide +kernel, rfl⟩
theorem eX12_compress32_455 : vD cX12_compress32 455 (.aload_n 0) 1 456 := ⟨by decide +kernel, rfl⟩
theorem eX12_compress32_456 : vD cX12_compress32 456 (.getfield 48) 3 459 := ⟨by decide +kernel, rfl⟩
theorem eX12_compress32_459 : vD cX12_compress32 459 (.bipush 7) 2 461 := ⟨by decide +kernel, rfl⟩
theorem eX12_compress32_461 : vD cX12_compress32 461 .dup2 1 462 := ⟨by decide +kernel, rfl⟩
theorem eX12_compress32_462 : vD cX12_compress32 462 .laload 1 463 := ⟨by decide +kernel, rfl⟩
theorem eX12_compress32_463 : vD cX12_compress32 463 (.iload 8) 2 465 := ⟨by decide +kernel, rfl⟩
theorem eX12_compress32_465 : vD cX12_compress32 465 .i2l 1 466 := ⟨by decide +kernel, rfl⟩
theorem eX12_compress32_466 : vD cX12_compress32 466 .ladd 1 467 := ⟨by decide +kernel, rfl⟩
theorem eX12_compress32_467 : vD cX12_compress32 467 .lastore 1 468 := ⟨by decide +kernel, rfl⟩
theorem eX12_compress32_468 : vD cX12_compress32 468 .return_ 1 469 := ⟨by decide +kernel, rfl⟩

abbrev q32 : Type := Int32 × Int32 × Int32 × Int32 × Int32 × Int32 × Int32 × Int32
def q32g (q : q32) (i : Nat) : Int32 := match i with
  | 0 => q.1 | 1 => q.2.1 | 2 => q.2.2.1 | 3 => q.2.2.2.1 | 4 => q.2.2.2.2.1 | 5 => q.2.2.2.2.2.1 | 6 => q.2.2.2.2.2.2.1 | _ => q.2.2.2.2.2.2.2
def us32 (x n : Int32) : Int32 := (x.toUInt32 >>> (n.toUInt32 &&& Int32.toUInt32 31)).toInt32
def c32v (Bk : Nat → Int32) (i n : Nat) : Int32 := itN (fun k v => (v <<< ((8 : Int32) &&& 31)) ||| (Bk (4 * i + k) &&& 255)) n 0
def c32L (Bk : Nat → Int32) (n : Nat) (w : Nat → Int64) : Nat → Int64 := itN (fun i w => vp_updL w i (c32v Bk i 4).toInt64) n w
def c32X1 (i : Nat) (w : Nat → Int64) : Nat → Int64 := vp_updL w i (((rtR (w (i - 2)).toInt32 17 ^^^ rtR (w (i - 2)).toInt32 19) ^^^ us32 (w (i - 2)).toInt32 10) + (w (i - 7)).toInt32 + ((rtR (w (i - 15)).toInt32 7 ^^^ rtR (w (i - 15)).toInt32 18) ^^^ us32 (w (i - 15)).toInt32 3) + (w (i - 16)).toInt32).toInt64
def c32X (n : Nat) (w : Nat → Int64) : Nat → Int64 := itN (fun j w => c32X1 (16 + j) w) n w
def c32x (K Wd : Nat → Int64) (i : Nat) (q : q32) : Int32 := match q with
  | (_, _, _, _, e, f, g, h) => h + ((rtR e 6 ^^^ rtR e 11) ^^^ rtR e 25) + ((e &&& f) ^^^ ((e ^^^ (-1)) &&& g)) + (us64 (K i) 32).toInt32 + (Wd i).toInt32
def c32y (q : q32) : Int32 := match q with
  | (a, b, c, _, _, _, _, _) => ((rtR a 2 ^^^ rtR a 13) ^^^ rtR a 22) + (((a &&& b) ^^^ (a &&& c)) ^^^ (b &&& c))
def c32R (K Wd : Nat → Int64) (i : Nat) (q : q32) : q32 := match q with
  | (a, b, c, d, e, f, g, h) => (c32x K Wd i (a, b, c, d, e, f, g, h) + c32y (a, b, c, d, e, f, g, h), a, b, c, d + c32x K Wd i (a, b, c, d, e, f, g, h), e, f, g)
def adA (v : Nat → Int64) (n : Nat) (S : Nat → Int64) : Nat → Int64 := itN (fun i S => vp_updL S i (S i + v i)) n S
def c32A (q : q32) (n : Nat) (S : Nat → Int64) : Nat → Int64 := adA (fun i => (q32g q i).toInt64) n S
def c32W (Bk : Nat → Int32) (w : Nat → Int64) : Nat → Int64 := c32X 48 (c32L Bk 16 w)
def c32I (S : Nat → Int64) : q32 := ((S 0).toInt32, (S 1).toInt32, (S 2).toInt32, (S 3).toInt32, (S 4).toInt32, (S 5).toInt32, (S 6).toInt32, (S 7).toInt32)
/-- SHA-256's compression: the state behind a block -/
def c32 (K : Nat → Int64) (Bk : Nat → Int32) (w S : Nat → Int64) : Nat → Int64 := c32A (itN (c32R K (c32W Bk w)) 64 (c32I S)) 8 S
section M3
variable {G : vG} {B : Nat} {l : Launch} {ad : Nat → Nat} {N : Nat}
set_option maxRecDepth 100000 in
set_option maxHeartbeats 4000000 in
theorem c32_1 (I : nI1 ad N) (hN : ∀ k, k < 74 → k < N) {σ : nS} {p : Program} {e : Env} {R : Room} {s : State} {m : MethodId} {args : Array Value} {below : List Frame} {meth : Method} {c : Code} {cells slots : Nat} {Q : State → Prop} (C : vC G B p m meth c cX12_compress32 12 none s args yX12_compress32.cls) {x : Nat → Int32} {t : Int64} {S w K : Nat → Int64} {Bk : Nat → Int32} (h49 : σ 49 = eO 9 (mO ad x t)) (h17 : σ 17 = eB G 128 Bk) (h6 : σ 6 = eJ G 80 K) (kk : V G B p l e R s m args below meth c 12 cells slots Q (nW ad N (va_up (va_up σ 13 (eJ G 25 S)) 16 (eJ G 80 (c32L Bk 16 w)))) 57 [(0, .ref (ad 49))] []) : V G B p l e R s m args below meth c 12 cells slots Q (nW ad N (va_up (va_up σ 13 (eJ G 25 S)) 16 (eJ G 80 w))) 0 [(0, .ref (ad 49))] [] := by
  refine v_iconst (v := (0 : Int32)) C eX12_compress32_0 (by decide) ?_
  refine v_istore_n (lv' := [(0, .ref (ad 49)), (1, .int ((0 : Int32)))]) C eX12_compress32_1 rfl (by decide) [1, 0] rfl ?_
  refine v_forV (fun i => va_up (va_up σ 13 (eJ G 25 S)) 16 (eJ G 80 (c32L Bk i w))) (fun i => [(0, .ref (ad 49)), (1, .int (nI i))]) 16 ?_ ?_
  · refine v_iload_n C eX12_compress32_2 rfl 1 rfl ?_
    refine v_bipush (v := (16 : Int32)) C eX12_compress32_3 (by decide) ?_
    refine v_icmp_ge (tgt := 57) C eX12_compress32_5 (by decide) (fun _ => ?_) (fun h => absurd (ix_le (a := 16) (b := 16) (rfl : (16 : Int32) = nI 16) (rfl : nI 16 = nI 16) (by omega) (by omega) (by omega)) h)
    refine v_pick (lv' := [(0, .ref (ad 49))]) [0] rfl ?_
    exact kk
  · intro i hi ihi
    refine v_iload_n C eX12_compress32_2 rfl 1 rfl ?_
    refine v_bipush (v := (16 : Int32)) C eX12_compress32_3 (by decide) ?_
    refine v_icmp_ge (tgt := 57) C eX12_compress32_5 (by decide) (fun h => absurd h (ix_nle (a := 16) (b := i) (rfl : (16 : Int32) = nI 16) (rfl : nI i = nI i) (by omega) (by omega) (by omega))) (fun _ => ?_)
    refine v_iconst (v := (0 : Int32)) C eX12_compress32_8 (by decide) ?_
    refine v_istore_n (lv' := [(0, .ref (ad 49)), (1, .int (nI i)), (2, .int ((0 : Int32)))]) C eX12_compress32_9 rfl (by decide) [1, 2, 0] rfl ?_
    refine v_iconst (v := (0 : Int32)) C eX12_compress32_10 (by decide) ?_
    refine v_istore_n (lv' := [(0, .ref (ad 49)), (1, .int (nI i)), (2, .int ((0 : Int32))), (3, .int ((0 : Int32)))]) C eX12_compress32_11 rfl (by decide) [1, 2, 3, 0] rfl ?_
    refine v_forV (fun k => va_up (va_up σ 13 (eJ G 25 S)) 16 (eJ G 80 (c32L Bk i w))) (fun k => [(0, .ref (ad 49)), (1, .int (nI i)), (2, .int (c32v Bk i k)), (3, .int (nI k))]) 4 ?_ ?_
    · refine v_iload_n C eX12_compress32_12 rfl 3 rfl ?_
      refine v_iconst (v := (4 : Int32)) C eX12_compress32_13 (by decide) ?_
      refine v_icmp_ge (tgt := 43) C eX12_compress32_14 (by decide) (fun _ => ?_) (fun h => absurd (ix_le (a := 4) (b := 4) (rfl : (4 : Int32) = nI 4) (rfl : nI 4 = nI 4) (by omega) (by omega) (by omega)) h)
      refine v_aload_n C eX12_compress32_43 rfl 0 rfl ?_
      refine n_get C I fX12_57_X12 eX12_compress32_44 (hN 49 (by decide)) h49 rfl ?_
      refine v_iload_n C eX12_compress32_47 rfl 1 rfl ?_
      refine v_iload_n C eX12_compress32_48 rfl 2 rfl ?_
      refine v_i2l C eX12_compress32_49 ?_
      refine n_last C I eX12_compress32_50 (hN 16 (by decide)) rfl i (rfl : nI i = nI i) (by omega) (by decide) ?_
      refine v_iinc (lv' := [(0, .ref (ad 49)), (1, .int (nI (i + 1))), (2, .int (c32v Bk i 4)), (3, .int (nI 4))]) C eX12_compress32_51 1 rfl (ix_inc _) (by decide) [1, 0, 2, 3] rfl ?_
      refine v_goto (tgt := 2) C eX12_compress32_54 (by decide) ?_
      refine v_eq (w' := nW ad N (va_up (va_up σ 13 (eJ G 25 S)) 16 (eJ G 80 (vp_updL (c32L Bk i w) i ((c32v Bk i 4).toInt64))))) (congrArg (nW ad N) (n_extL [13, 16] ⟨rfl, rfl, trivial⟩ (fun q h => by simp only [List.mem_cons, List.not_mem_nil, or_false, not_or] at h; simp [va_up, h]))) rfl rfl ?_
      refine v_pick (lv' := [(0, .ref (ad 49)), (1, .int (nI (i + 1)))]) [0, 1] rfl ?_
      exact ihi
    · intro k hk ihk
      refine v_iload_n C eX12_compress32_12 rfl 3 rfl ?_
      refine v_iconst (v := (4 : Int32)) C eX12_compress32_13 (by decide) ?_
      refine v_icmp_ge (tgt := 43) C eX12_compress32_14 (by decide) (fun h => absurd h (ix_nle (a := 4) (b := k) (rfl : (4 : Int32) = nI 4) (rfl : nI k = nI k) (by omega) (by omega) (by omega))) (fun _ => ?_)
      refine v_iload_n C eX12_compress32_17 rfl 2 rfl ?_
      refine v_bipush (v := (8 : Int32)) C eX12_compress32_18 (by decide) ?_
      refine v_ishl C eX12_compress32_20 ?_
      refine v_aload_n C eX12_compress32_21 rfl 0 rfl ?_
      refine n_get C I fX12_60_X12 eX12_compress32_22 (hN 49 (by decide)) h49 rfl ?_
      refine v_iconst (v := (4 : Int32)) C eX12_compress32_25 (by decide) ?_
      refine v_iload_n C eX12_compress32_26 rfl 1 rfl ?_
      refine v_imul C eX12_compress32_27 ?_
      refine v_iload_n C eX12_compress32_28 rfl 3 rfl ?_
      refine v_iadd C eX12_compress32_29 ?_
      refine n_bald C I eX12_compress32_30 (hN 17 (by decide)) h17 ((4 * i) + k) (ix_add (a := 4 * i) (b := k) (ix_mul (a := 4) (b := i) (rfl : (4 : Int32) = nI 4) (rfl : nI i = nI i)) (rfl : nI k = nI k)) (by omega) (by decide) ?_
      refine v_sipush (v := (255 : Int32)) C eX12_compress32_31 (by decide) ?_
      refine v_iand C eX12_compress32_34 ?_
      refine v_ior C eX12_compress32_35 ?_
      refine v_istore_n (lv' := [(0, .ref (ad 49)), (1, .int (nI i)), (2, .int (((c32v Bk i k) <<< (((8 : Int32)) &&& 31)) ||| ((Bk ((4 * i) + k)) &&& ((255 : Int32))))), (3, .int (nI k))]) C eX12_compress32_36 rfl (by decide) [1, 2, 0, 3] rfl ?_
      refine v_iinc (lv' := [(0, .ref (ad 49)), (1, .int (nI i)), (2, .int (((c32v Bk i k) <<< (((8 : Int32)) &&& 31)) ||| ((Bk ((4 * i) + k)) &&& ((255 : Int32))))), (3, .int (nI (k + 1)))]) C eX12_compress32_37 3 rfl (ix_inc _) (by decide) [1, 2, 3, 0] rfl ?_
      refine v_goto (tgt := 12) C eX12_compress32_40 (by decide) ?_
      exact ihk

set_option maxRecDepth 100000 in
set_option maxHeartbeats 4000000 in
theorem c32_2 (I : nI1 ad N) (hN : ∀ k, k < 74 → k < N) {σ : nS} {p : Program} {e : Env} {R : Room} {s : State} {m : MethodId} {args : Array Value} {below : List Frame} {meth : Method} {c : Code} {cells slots : Nat} {Q : State → Prop} (C : vC G B p m meth c cX12_compress32 12 none s args yX12_compress32.cls) {x : Nat → Int32} {t : Int64} {S w K : Nat → Int64} {Bk : Nat → Int32} (h49 : σ 49 = eO 9 (mO ad x t)) (h17 : σ 17 = eB G 128 Bk) (h6 : σ 6 = eJ G 80 K) {d1 mc1 ms1 : Nat} (hR : R = vRm d1 mc1 ms1) (hdd : 0 + 1 ≤ d1) (hrc : cells + 0 ≤ mc1) (hrs : slots + 0 ≤ ms1) (kk : V G B p l e R s m args below meth c 12 cells slots Q (nW ad N (va_up (va_up σ 13 (eJ G 25 S)) 16 (eJ G 80 (c32X 48 w)))) 158 [(0, .ref (ad 49))] []) : V G B p l e R s m args below meth c 12 cells slots Q (nW ad N (va_up (va_up σ 13 (eJ G 25 S)) 16 (eJ G 80 w))) 57 [(0, .ref (ad 49))] [] := by
  refine v_bipush (v := (16 : Int32)) C eX12_compress32_57 (by decide) ?_
  refine v_istore_n (lv' := [(0, .ref (ad 49)), (1, .int ((16 : Int32)))]) C eX12_compress32_59 rfl (by decide) [1, 0] rfl ?_
  refine v_forV (fun j => va_up (va_up σ 13 (eJ G 25 S)) 16 (eJ G 80 (c32X j w))) (fun j => [(0, .ref (ad 49)), (1, .int (nI (16 + j)))]) 48 ?_ ?_
  · refine v_iload_n C eX12_compress32_60 rfl 1 rfl ?_
    refine v_bipush (v := (64 : Int32)) C eX12_compress32_61 (by decide) ?_
    refine v_icmp_ge (tgt := 158) C eX12_compress32_63 (by decide) (fun _ => ?_) (fun h => absurd (ix_le (a := 64) (b := 16 + 48) (rfl : (64 : Int32) = nI 64) (rfl : nI (16 + 48) = nI (16 + 48)) (by omega) (by omega) (by omega)) h)
    refine v_pick (lv' := [(0, .ref (ad 49))]) [0] rfl ?_
    exact kk
  · intro j hj ihj
    refine v_iload_n C eX12_compress32_60 rfl 1 rfl ?_
    refine v_bipush (v := (64 : Int32)) C eX12_compress32_61 (by decide) ?_
    refine v_icmp_ge (tgt := 158) C eX12_compress32_63 (by decide) (fun h => absurd h (ix_nle (a := 64) (b := 16 + j) (rfl : (64 : Int32) = nI 64) (rfl : nI (16 + j) = nI (16 + j)) (by omega) (by omega) (by omega))) (fun _ => ?_)
    refine v_aload_n C eX12_compress32_66 rfl 0 rfl ?_
    refine n_get C I fX12_57_X12 eX12_compress32_67 (hN 49 (by decide)) h49 rfl ?_
    refine v_iload_n C eX12_compress32_70 rfl 1 rfl ?_
    refine v_iconst (v := (2 : Int32)) C eX12_compress32_71 (by decide) ?_
    refine v_isub C eX12_compress32_72 ?_
    refine n_lald C I eX12_compress32_73 (hN 16 (by decide)) rfl ((16 + j) - 2) (ix_sub (a := 16 + j) (b := 2) (rfl : nI (16 + j) = nI (16 + j)) (rfl : (2 : Int32) = nI 2) (by omega)) (by omega) (by decide) ?_
    refine v_l2i C eX12_compress32_74 ?_
    refine v_istore_n (lv' := [(0, .ref (ad 49)), (1, .int (nI (16 + j))), (2, .int (((c32X j w) ((16 + j) - 2)).toInt32))]) C eX12_compress32_75 rfl (by decide) [1, 2, 0] rfl ?_
    refine v_aload_n C eX12_compress32_76 rfl 0 rfl ?_
    refine n_get C I fX12_57_X12 eX12_compress32_77 (hN 49 (by decide)) h49 rfl ?_
    refine v_iload_n C eX12_compress32_80 rfl 1 rfl ?_
    refine v_bipush (v := (15 : Int32)) C eX12_compress32_81 (by decide) ?_
    refine v_isub C eX12_compress32_83 ?_
    refine n_lald C I eX12_compress32_84 (hN 16 (by decide)) rfl ((16 + j) - 15) (ix_sub (a := 16 + j) (b := 15) (rfl : nI (16 + j) = nI (16 + j)) (rfl : (15 : Int32) = nI 15) (by omega)) (by omega) (by decide) ?_
    refine v_l2i C eX12_compress32_85 ?_
    refine v_istore_n (lv' := [(0, .ref (ad 49)), (1, .int (nI (16 + j))), (2, .int (((c32X j w) ((16 + j) - 2)).toInt32)), (3, .int (((c32X j w) ((16 + j) - 15)).toInt32))]) C eX12_compress32_86 rfl (by decide) [1, 2, 3, 0] rfl ?_
    refine v_aload_n C eX12_compress32_87 rfl 0 rfl ?_
    refine n_get C I fX12_57_X12 eX12_compress32_88 (hN 49 (by decide)) h49 rfl ?_
    refine v_iload_n C eX12_compress32_91 rfl 1 rfl ?_
    refine v_iload_n C eX12_compress32_92 rfl 2 rfl ?_
    refine v_bipush (v := (17 : Int32)) C eX12_compress32_93 (by decide) ?_
    refine n_callS (av := [.int (((c32X j w) ((16 + j) - 2)).toInt32), .int ((17 : Int32))]) (rest := [.int (nI (16 + j)), .ref (ad 16)]) C mX12_224 (c_turn (((c32X j w) ((16 + j) - 2)).toInt32) ((17 : Int32))) hR hdd (by decide) ⟨hrc, hrs⟩ rfl rfl (Nat.le_of_ble_eq_true rfl) eX12_compress32_95 (fun r σ' hp => ?_)
    obtain ⟨rfl, rfl⟩ := hp
    refine v_iload_n C eX12_compress32_98 rfl 2 rfl ?_
    refine v_bipush (v := (19 : Int32)) C eX12_compress32_99 (by decide) ?_
    refine n_callS (av := [.int (((c32X j w) ((16 + j) - 2)).toInt32), .int ((19 : Int32))]) (rest := [.int (rtR (((c32X j w) ((16 + j) - 2)).toInt32) ((17 : Int32))), .int (nI (16 + j)), .ref (ad 16)]) C mX12_224 (c_turn (((c32X j w) ((16 + j) - 2)).toInt32) ((19 : Int32))) hR hdd (by decide) ⟨hrc, hrs⟩ rfl rfl (Nat.le_of_ble_eq_true rfl) eX12_compress32_101 (fun r σ' hp => ?_)
    obtain ⟨rfl, rfl⟩ := hp
    refine v_ixor C eX12_compress32_104 ?_
    refine v_iload_n C eX12_compress32_105 rfl 2 rfl ?_
    refine v_bipush (v := (10 : Int32)) C eX12_compress32_106 (by decide) ?_
    refine v_iushr C eX12_compress32_108 ?_
    refine v_ixor C eX12_compress32_109 ?_
    refine v_aload_n C eX12_compress32_110 rfl 0 rfl ?_
    refine n_get C I fX12_57_X12 eX12_compress32_111 (hN 49 (by decide)) h49 rfl ?_
    refine v_iload_n C eX12_compress32_114 rfl 1 rfl ?_
    refine v_bipush (v := (7 : Int32)) C eX12_compress32_115 (by decide) ?_
    refine v_isub C eX12_compress32_117 ?_
    refine n_lald C I eX12_compress32_118 (hN 16 (by decide)) rfl ((16 + j) - 7) (ix_sub (a := 16 + j) (b := 7) (rfl : nI (16 + j) = nI (16 + j)) (rfl : (7 : Int32) = nI 7) (by omega)) (by omega) (by decide) ?_
    refine v_l2i C eX12_compress32_119 ?_
    refine v_iadd C eX12_compress32_120 ?_
    refine v_iload_n C eX12_compress32_121 rfl 3 rfl ?_
    refine v_bipush (v := (7 : Int32)) C eX12_compress32_122 (by decide) ?_
    refine n_callS (av := [.int (((c32X j w) ((16 + j) - 15)).toInt32), .int ((7 : Int32))]) (rest := [.int ((((rtR (((c32X j w) ((16 + j) - 2)).toInt32) ((17 : Int32))) ^^^ (rtR (((c32X j w) ((16 + j) - 2)).toInt32) ((19 : Int32)))) ^^^ (((((c32X j w) ((16 + j) - 2)).toInt32).toUInt32 >>> (((10 : Int32)).toUInt32 &&& Int32.toUInt32 31)).toInt32)) + (((c32X j w) ((16 + j) - 7)).toInt32)), .int (nI (16 + j)), .ref (ad 16)]) C mX12_224 (c_turn (((c32X j w) ((16 + j) - 15)).toInt32) ((7 : Int32))) hR hdd (by decide) ⟨hrc, hrs⟩ rfl rfl (Nat.le_of_ble_eq_true rfl) eX12_compress32_124 (fun r σ' hp => ?_)
    obtain ⟨rfl, rfl⟩ := hp
    refine v_iload_n C eX12_compress32_127 rfl 3 rfl ?_
    refine v_bipush (v := (18 : Int32)) C eX12_compress32_128 (by decide) ?_
    refine n_callS (av := [.int (((c32X j w) ((16 + j) - 15)).toInt32), .int ((18 : Int32))]) (rest := [.int (rtR (((c32X j w) ((16 + j) - 15)).toInt32) ((7 : Int32))), .int ((((rtR (((c32X j w) ((16 + j) - 2)).toInt32) ((17 : Int32))) ^^^ (rtR (((c32X j w) ((16 + j) - 2)).toInt32) ((19 : Int32)))) ^^^ (((((c32X j w) ((16 + j) - 2)).toInt32).toUInt32 >>> (((10 : Int32)).toUInt32 &&& Int32.toUInt32 31)).toInt32)) + (((c32X j w) ((16 + j) - 7)).toInt32)), .int (nI (16 + j)), .ref (ad 16)]) C mX12_224 (c_turn (((c32X j w) ((16 + j) - 15)).toInt32) ((18 : Int32))) hR hdd (by decide) ⟨hrc, hrs⟩ rfl rfl (Nat.le_of_ble_eq_true rfl) eX12_compress32_130 (fun r σ' hp => ?_)
    obtain ⟨rfl, rfl⟩ := hp
    refine v_ixor C eX12_compress32_133 ?_
    refine v_iload_n C eX12_compress32_134 rfl 3 rfl ?_
    refine v_iconst (v := (3 : Int32)) C eX12_compress32_135 (by decide) ?_
    refine v_iushr C eX12_compress32_136 ?_
    refine v_ixor C eX12_compress32_137 ?_
    refine v_iadd C eX12_compress32_138 ?_
    refine v_aload_n C eX12_compress32_139 rfl 0 rfl ?_
    refine n_get C I fX12_57_X12 eX12_compress32_140 (hN 49 (by decide)) h49 rfl ?_
    refine v_iload_n C eX12_compress32_143 rfl 1 rfl ?_
    refine v_bipush (v := (16 : Int32)) C eX12_compress32_144 (by decide) ?_
    refine v_isub C eX12_compress32_146 ?_
    refine n_lald C I eX12_compress32_147 (hN 16 (by decide)) rfl ((16 + j) - 16) (ix_sub (a := 16 + j) (b := 16) (rfl : nI (16 + j) = nI (16 + j)) (rfl : (16 : Int32) = nI 16) (by omega)) (by omega) (by decide) ?_
    refine v_l2i C eX12_compress32_148 ?_
    refine v_iadd C eX12_compress32_149 ?_
    refine v_i2l C eX12_compress32_150 ?_
    refine n_last C I eX12_compress32_151 (hN 16 (by decide)) rfl (16 + j) (rfl : nI (16 + j) = nI (16 + j)) (by omega) (by decide) ?_
    refine v_iinc (lv' := [(0, .ref (ad 49)), (1, .int (nI (16 + j + 1))), (2, .int (((c32X j w) ((16 + j) - 2)).toInt32)), (3, .int (((c32X j w) ((16 + j) - 15)).toInt32))]) C eX12_compress32_152 1 rfl (ix_inc _) (by decide) [1, 0, 2, 3] rfl ?_
    refine v_goto (tgt := 60) C eX12_compress32_155 (by decide) ?_
    refine v_eq (w' := nW ad N (va_up (va_up σ 13 (eJ G 25 S)) 16 (eJ G 80 (vp_updL (c32X j w) (16 + j) (((((((rtR (((c32X j w) ((16 + j) - 2)).toInt32) ((17 : Int32))) ^^^ (rtR (((c32X j w) ((16 + j) - 2)).toInt32) ((19 : Int32)))) ^^^ (((((c32X j w) ((16 + j) - 2)).toInt32).toUInt32 >>> (((10 : Int32)).toUInt32 &&& Int32.toUInt32 31)).toInt32)) + (((c32X j w) ((16 + j) - 7)).toInt32)) + (((rtR (((c32X j w) ((16 + j) - 15)).toInt32) ((7 : Int32))) ^^^ (rtR (((c32X j w) ((16 + j) - 15)).toInt32) ((18 : Int32)))) ^^^ (((((c32X j w) ((16 + j) - 15)).toInt32).toUInt32 >>> (((3 : Int32)).toUInt32 &&& Int32.toUInt32 31)).toInt32))) + (((c32X j w) ((16 + j) - 16)).toInt32)).toInt64))))) (congrArg (nW ad N) (n_extL [13, 16] ⟨rfl, rfl, trivial⟩ (fun q h => by simp only [List.mem_cons, List.not_mem_nil, or_false, not_or] at h; simp [va_up, h]))) rfl rfl ?_
    refine v_pick (lv' := [(0, .ref (ad 49)), (1, .int (nI (16 + j + 1)))]) [0, 1] rfl ?_
    exact ihj

set_option maxRecDepth 100000 in
set_option maxHeartbeats 4000000 in
theorem c32_4 (I : nI1 ad N) (hN : ∀ k, k < 74 → k < N) {σ : nS} {p : Program} {e : Env} {R : Room} {s : State} {m : MethodId} {args : Array Value} {below : List Frame} {meth : Method} {c : Code} {cells slots : Nat} {Q : State → Prop} (C : vC G B p m meth c cX12_compress32 12 none s args yX12_compress32.cls) {x : Nat → Int32} {t : Int64} {S w K : Nat → Int64} {Bk : Nat → Int32} (h49 : σ 49 = eO 9 (mO ad x t)) (h17 : σ 17 = eB G 128 Bk) (h6 : σ 6 = eJ G 80 K) (i : Nat) (hi : i < 64) (a0 b0 c0 d0 e0 f0 g0 h0 : Int32) {d1 mc1 ms1 : Nat} (hR : R = vRm d1 mc1 ms1) (hdd : 0 + 1 ≤ d1) (hrc : cells + 0 ≤ mc1) (hrs : slots + 0 ≤ ms1) (kk : V G B p l e R s m args below meth c 12 cells slots Q (nW ad N (va_up (va_up σ 13 (eJ G 25 S)) 16 (eJ G 80 w))) 232 [(0, .ref (ad 49)), (1, .int ((c32R K w i (a0, b0, c0, d0, e0, f0, g0, h0)).1)), (2, .int ((c32R K w i (a0, b0, c0, d0, e0, f0, g0, h0)).2.1)), (3, .int ((c32R K w i (a0, b0, c0, d0, e0, f0, g0, h0)).2.2.1)), (4, .int ((c32R K w i (a0, b0, c0, d0, e0, f0, g0, h0)).2.2.2.1)), (5, .int ((c32R K w i (a0, b0, c0, d0, e0, f0, g0, h0)).2.2.2.2.1)), (6, .int ((c32R K w i (a0, b0, c0, d0, e0, f0, g0, h0)).2.2.2.2.2.1)), (7, .int ((c32R K w i (a0, b0, c0, d0, e0, f0, g0, h0)).2.2.2.2.2.2.1)), (8, .int ((c32R K w i (a0, b0, c0, d0, e0, f0, g0, h0)).2.2.2.2.2.2.2)), (9, .int (nI (i + 1)))] []) : V G B p l e R s m args below meth c 12 cells slots Q (nW ad N (va_up (va_up σ 13 (eJ G 25 S)) 16 (eJ G 80 w))) 239 [(0, .ref (ad 49)), (1, .int a0), (2, .int b0), (3, .int c0), (4, .int d0), (5, .int e0), (6, .int f0), (7, .int g0), (8, .int h0), (9, .int (nI i))] [] := by
  refine v_iload C eX12_compress32_239 8 rfl ?_
  refine v_iload C eX12_compress32_241 5 rfl ?_
  refine v_bipush (v := (6 : Int32)) C eX12_compress32_243 (by decide) ?_
  refine n_callS (av := [.int e0, .int ((6 : Int32))]) (rest := [.int h0]) C mX12_224 (c_turn e0 ((6 : Int32))) hR hdd (by decide) ⟨hrc, hrs⟩ rfl rfl (Nat.le_of_ble_eq_true rfl) eX12_compress32_245 (fun r σ' hp => ?_)
  obtain ⟨rfl, rfl⟩ := hp
  refine v_iload C eX12_compress32_248 5 rfl ?_
  refine v_bipush (v := (11 : Int32)) C eX12_compress32_250 (by decide) ?_
  refine n_callS (av := [.int e0, .int ((11 : Int32))]) (rest := [.int (rtR e0 ((6 : Int32))), .int h0]) C mX12_224 (c_turn e0 ((11 : Int32))) hR hdd (by decide) ⟨hrc, hrs⟩ rfl rfl (Nat.le_of_ble_eq_true rfl) eX12_compress32_252 (fun r σ' hp => ?_)
  obtain ⟨rfl, rfl⟩ := hp
  refine v_ixor C eX12_compress32_255 ?_
  refine v_iload C eX12_compress32_256 5 rfl ?_
  refine v_bipush (v := (25 : Int32)) C eX12_compress32_258 (by decide) ?_
  refine n_callS (av := [.int e0, .int ((25 : Int32))]) (rest := [.int ((rtR e0 ((6 : Int32))) ^^^ (rtR e0 ((11 : Int32)))), .int h0]) C mX12_224 (c_turn e0 ((25 : Int32))) hR hdd (by decide) ⟨hrc, hrs⟩ rfl rfl (Nat.le_of_ble_eq_true rfl) eX12_compress32_260 (fun r σ' hp => ?_)
  obtain ⟨rfl, rfl⟩ := hp
  refine v_ixor C eX12_compress32_263 ?_
  refine v_iadd C eX12_compress32_264 ?_
  refine v_iload C eX12_compress32_265 5 rfl ?_
  refine v_iload C eX12_compress32_267 6 rfl ?_
  refine v_iand C eX12_compress32_269 ?_
  refine v_iload C eX12_compress32_270 5 rfl ?_
  refine v_iconst (v := (-1 : Int32)) C eX12_compress32_272 (by decide) ?_
  refine v_ixor C eX12_compress32_273 ?_
  refine v_iload C eX12_compress32_274 7 rfl ?_
  refine v_iand C eX12_compress32_276 ?_
  refine v_ixor C eX12_compress32_277 ?_
  refine v_iadd C eX12_compress32_278 ?_
  refine v_aload_n C eX12_compress32_279 rfl 0 rfl ?_
  refine n_get C I fX12_27_X12 eX12_compress32_280 (hN 49 (by decide)) h49 rfl ?_
  refine v_iload C eX12_compress32_283 9 rfl ?_
  refine n_lald C I eX12_compress32_285 (hN 6 (by decide)) h6 i (rfl : nI i = nI i) (by omega) (by decide) ?_
  refine v_bipush (v := (32 : Int32)) C eX12_compress32_286 (by decide) ?_
  refine v_lushr C eX12_compress32_288 ?_
  refine v_l2i C eX12_compress32_289 ?_
  refine v_iadd C eX12_compress32_290 ?_
  refine v_aload_n C eX12_compress32_291 rfl 0 rfl ?_
  refine n_get C I fX12_57_X12 eX12_compress32_292 (hN 49 (by decide)) h49 rfl ?_
  refine v_iload C eX12_compress32_295 9 rfl ?_
  refine n_lald C I eX12_compress32_297 (hN 16 (by decide)) rfl i (rfl : nI i = nI i) (by omega) (by decide) ?_
  refine v_l2i C eX12_compress32_298 ?_
  refine v_iadd C eX12_compress32_299 ?_
  refine v_topi (fun t1 ht1 => ?_)
  refine v_istore (lv' := [(0, .ref (ad 49)), (1, .int a0), (2, .int b0), (3, .int c0), (4, .int d0), (5, .int e0), (6, .int f0), (7, .int g0), (8, .int h0), (9, .int (nI i)), (10, .int t1)]) C eX12_compress32_300 (by decide) [1, 2, 3, 4, 5, 6, 7, 8, 9, 10, 0] rfl ?_
  refine v_iload_n C eX12_compress32_302 rfl 1 rfl ?_
  refine v_iconst (v := (2 : Int32)) C eX12_compress32_303 (by decide) ?_
  refine n_callS (av := [.int a0, .int ((2 : Int32))]) (rest := []) C mX12_224 (c_turn a0 ((2 : Int32))) hR hdd (by decide) ⟨hrc, hrs⟩ rfl rfl (Nat.le_of_ble_eq_true rfl) eX12_compress32_304 (fun r σ' hp => ?_)
  obtain ⟨rfl, rfl⟩ := hp
  refine v_iload_n C eX12_compress32_307 rfl 1 rfl ?_
  refine v_bipush (v := (13 : Int32)) C eX12_compress32_308 (by decide) ?_
  refine n_callS (av := [.int a0, .int ((13 : Int32))]) (rest := [.int (rtR a0 ((2 : Int32)))]) C mX12_224 (c_turn a0 ((13 : Int32))) hR hdd (by decide) ⟨hrc, hrs⟩ rfl rfl (Nat.le_of_ble_eq_true rfl) eX12_compress32_310 (fun r σ' hp => ?_)
  obtain ⟨rfl, rfl⟩ := hp
  refine v_ixor C eX12_compress32_313 ?_
  refine v_iload_n C eX12_compress32_314 rfl 1 rfl ?_
  refine v_bipush (v := (22 : Int32)) C eX12_compress32_315 (by decide) ?_
  refine n_callS (av := [.int a0, .int ((22 : Int32))]) (rest := [.int ((rtR a0 ((2 : Int32))) ^^^ (rtR a0 ((13 : Int32))))]) C mX12_224 (c_turn a0 ((22 : Int32))) hR hdd (by decide) ⟨hrc, hrs⟩ rfl rfl (Nat.le_of_ble_eq_true rfl) eX12_compress32_317 (fun r σ' hp => ?_)
  obtain ⟨rfl, rfl⟩ := hp
  refine v_ixor C eX12_compress32_320 ?_
  refine v_iload_n C eX12_compress32_321 rfl 1 rfl ?_
  refine v_iload_n C eX12_compress32_322 rfl 2 rfl ?_
  refine v_iand C eX12_compress32_323 ?_
  refine v_iload_n C eX12_compress32_324 rfl 1 rfl ?_
  refine v_iload_n C eX12_compress32_325 rfl 3 rfl ?_
  refine v_iand C eX12_compress32_326 ?_
  refine v_ixor C eX12_compress32_327 ?_
  refine v_iload_n C eX12_compress32_328 rfl 2 rfl ?_
  refine v_iload_n C eX12_compress32_329 rfl 3 rfl ?_
  refine v_iand C eX12_compress32_330 ?_
  refine v_ixor C eX12_compress32_331 ?_
  refine v_iadd C eX12_compress32_332 ?_
  refine v_topi (fun t2 ht2 => ?_)
  refine v_istore (lv' := [(0, .ref (ad 49)), (1, .int a0), (2, .int b0), (3, .int c0), (4, .int d0), (5, .int e0), (6, .int f0), (7, .int g0), (8, .int h0), (9, .int (nI i)), (10, .int t1), (11, .int t2)]) C eX12_compress32_333 (by decide) [1, 2, 3, 4, 5, 6, 7, 8, 9, 10, 11, 0] rfl ?_
  refine v_iload C eX12_compress32_335 7 rfl ?_
  refine v_istore (lv' := [(0, .ref (ad 49)), (1, .int a0), (2, .int b0), (3, .int c0), (4, .int d0), (5, .int e0), (6, .int f0), (7, .int g0), (8, .int g0), (9, .int (nI i)), (10, .int t1), (11, .int t2)]) C eX12_compress32_337 (by decide) [1, 2, 3, 4, 5, 6, 7, 8, 0, 9, 10, 11] rfl ?_
  refine v_iload C eX12_compress32_339 6 rfl ?_
  refine v_istore (lv' := [(0, .ref (ad 49)), (1, .int a0), (2, .int b0), (3, .int c0), (4, .int d0), (5, .int e0), (6, .int f0), (7, .int f0), (8, .int g0), (9, .int (nI i)), (10, .int t1), (11, .int t2)]) C eX12_compress32_341 (by decide) [1, 2, 3, 4, 5, 6, 7, 0, 8, 9, 10, 11] rfl ?_
  refine v_iload C eX12_compress32_343 5 rfl ?_
  refine v_istore (lv' := [(0, .ref (ad 49)), (1, .int a0), (2, .int b0), (3, .int c0), (4, .int d0), (5, .int e0), (6, .int e0), (7, .int f0), (8, .int g0), (9, .int (nI i)), (10, .int t1), (11, .int t2)]) C eX12_compress32_345 (by decide) [1, 2, 3, 4, 5, 6, 0, 7, 8, 9, 10, 11] rfl ?_
  refine v_iload C eX12_compress32_347 4 rfl ?_
  refine v_iload C eX12_compress32_349 10 rfl ?_
  refine v_iadd C eX12_compress32_351 ?_
  refine v_topi (fun t3 ht3 => ?_)
  refine v_istore (lv' := [(0, .ref (ad 49)), (1, .int a0), (2, .int b0), (3, .int c0), (4, .int d0), (5, .int t3), (6, .int e0), (7, .int f0), (8, .int g0), (9, .int (nI i)), (10, .int t1), (11, .int t2)]) C eX12_compress32_352 (by decide) [1, 2, 3, 4, 5, 0, 6, 7, 8, 9, 10, 11] rfl ?_
  refine v_iload_n C eX12_compress32_354 rfl 3 rfl ?_
  refine v_istore (lv' := [(0, .ref (ad 49)), (1, .int a0), (2, .int b0), (3, .int c0), (4, .int c0), (5, .int t3), (6, .int e0), (7, .int f0), (8, .int g0), (9, .int (nI i)), (10, .int t1), (11, .int t2)]) C eX12_compress32_355 (by decide) [1, 2, 3, 4, 0, 5, 6, 7, 8, 9, 10, 11] rfl ?_
  refine v_iload_n C eX12_compress32_357 rfl 2 rfl ?_
  refine v_istore_n (lv' := [(0, .ref (ad 49)), (1, .int a0), (2, .int b0), (3, .int b0), (4, .int c0), (5, .int t3), (6, .int e0), (7, .int f0), (8, .int g0), (9, .int (nI i)), (10, .int t1), (11, .int t2)]) C eX12_compress32_358 rfl (by decide) [1, 2, 3, 0, 4, 5, 6, 7, 8, 9, 10, 11] rfl ?_
  refine v_iload_n C eX12_compress32_359 rfl 1 rfl ?_
  refine v_istore_n (lv' := [(0, .ref (ad 49)), (1, .int a0), (2, .int a0), (3, .int b0), (4, .int c0), (5, .int t3), (6, .int e0), (7, .int f0), (8, .int g0), (9, .int (nI i)), (10, .int t1), (11, .int t2)]) C eX12_compress32_360 rfl (by decide) [1, 2, 0, 3, 4, 5, 6, 7, 8, 9, 10, 11] rfl ?_
  refine v_iload C eX12_compress32_361 10 rfl ?_
  refine v_iload C eX12_compress32_363 11 rfl ?_
  refine v_iadd C eX12_compress32_365 ?_
  refine v_topi (fun t4 ht4 => ?_)
  refine v_istore_n (lv' := [(0, .ref (ad 49)), (1, .int t4), (2, .int a0), (3, .int b0), (4, .int c0), (5, .int t3), (6, .int e0), (7, .int f0), (8, .int g0), (9, .int (nI i)), (10, .int t1), (11, .int t2)]) C eX12_compress32_366 rfl (by decide) [1, 0, 2, 3, 4, 5, 6, 7, 8, 9, 10, 11] rfl ?_
  refine v_iinc (lv' := [(0, .ref (ad 49)), (1, .int t4), (2, .int a0), (3, .int b0), (4, .int c0), (5, .int t3), (6, .int e0), (7, .int f0), (8, .int g0), (9, .int (nI (i + 1))), (10, .int t1), (11, .int t2)]) C eX12_compress32_367 9 rfl (ix_inc _) (by decide) [1, 2, 3, 4, 5, 6, 7, 8, 9, 0, 10, 11] rfl ?_
  refine v_goto (tgt := 232) C eX12_compress32_370 (by decide) ?_
  refine v_pick (lv' := [(0, .ref (ad 49)), (1, .int t4), (2, .int a0), (3, .int b0), (4, .int c0), (5, .int t3), (6, .int e0), (7, .int f0), (8, .int g0), (9, .int (nI (i + 1)))]) [0, 1, 2, 3, 4, 5, 6, 7, 8, 9] rfl ?_
  subst ht1
  subst ht2
  subst ht3
  subst ht4
  exact kk

set_option maxRecDepth 100000 in
set_option maxHeartbeats 4000000 in
theorem c32_5 (I : nI1 ad N) (hN : ∀ k, k < 74 → k < N) {σ : nS} {p : Program} {e : Env} {R : Room} {s : State} {m : MethodId} {args : Array Value} {below : List Frame} {meth : Method} {c : Code} {cells slots : Nat} {Q : State → Prop} (C : vC G B p m meth c cX12_compress32 12 none s args yX12_compress32.cls) {x : Nat → Int32} {t : Int64} {S w K : Nat → Int64} {Bk : Nat → Int32} (h49 : σ 49 = eO 9 (mO ad x t)) (h17 : σ 17 = eB G 128 Bk) (h6 : σ 6 = eJ G 80 K) (q : q32) (v : Nat → Int64) (hv : ∀ i, i < 8 → (q32g q i).toInt64 = v i) (kk : V G B p l e R s m args below meth c 12 cells slots Q (nW ad N (va_up (va_up σ 13 (eJ G 25 (adA v 8 S))) 16 (eJ G 80 w))) 468 [(0, .ref (ad 49))] []) : V G B p l e R s m args below meth c 12 cells slots Q (nW ad N (va_up (va_up σ 13 (eJ G 25 S)) 16 (eJ G 80 w))) 373 [(0, .ref (ad 49)), (1, .int (q32g q 0)), (2, .int (q32g q 1)), (3, .int (q32g q 2)), (4, .int (q32g q 3)), (5, .int (q32g q 4)), (6, .int (q32g q 5)), (7, .int (q32g q 6)), (8, .int (q32g q 7))] [] := by
  refine v_aload_n C eX12_compress32_373 rfl 0 rfl ?_
  refine n_get C I fX12_48_X12 eX12_compress32_374 (hN 49 (by decide)) h49 rfl ?_
  refine v_iconst (v := (0 : Int32)) C eX12_compress32_377 (by decide) ?_
  refine v_dup2_11 C eX12_compress32_378 rfl rfl ?_
  refine n_lald C I eX12_compress32_379 (hN 13 (by decide)) rfl 0 (rfl : (0 : Int32) = nI 0) (by omega) (by decide) ?_
  refine v_iload_n C eX12_compress32_380 rfl 1 rfl ?_
  refine v_i2l C eX12_compress32_381 ?_
  rw [hv 0 (by decide)]
  refine v_ladd C eX12_compress32_382 ?_
  refine n_last C I eX12_compress32_383 (hN 13 (by decide)) rfl 0 (rfl : (0 : Int32) = nI 0) (by omega) (by decide) ?_
  refine v_eq (w' := nW ad N (va_up (va_up σ 13 (eJ G 25 (vp_updL S 0 ((S 0) + (v 0))))) 16 (eJ G 80 w))) (congrArg (nW ad N) (n_extL [13, 16] ⟨rfl, rfl, trivial⟩ (fun q h => by simp only [List.mem_cons, List.not_mem_nil, or_false, not_or] at h; simp [va_up, h]))) rfl rfl ?_
  refine v_eq (w' := nW ad N (va_up (va_up σ 13 (eJ G 25 (adA v 1 S))) 16 (eJ G 80 w))) rfl rfl rfl ?_
  refine v_aload_n C eX12_compress32_384 rfl 0 rfl ?_
  refine n_get C I fX12_48_X12 eX12_compress32_385 (hN 49 (by decide)) h49 rfl ?_
  refine v_iconst (v := (1 : Int32)) C eX12_compress32_388 (by decide) ?_
  refine v_dup2_11 C eX12_compress32_389 rfl rfl ?_
  refine n_lald C I eX12_compress32_390 (hN 13 (by decide)) rfl 1 (rfl : (1 : Int32) = nI 1) (by omega) (by decide) ?_
  refine v_iload_n C eX12_compress32_391 rfl 2 rfl ?_
  refine v_i2l C eX12_compress32_392 ?_
  rw [hv 1 (by decide)]
  refine v_ladd C eX12_compress32_393 ?_
  refine n_last C I eX12_compress32_394 (hN 13 (by decide)) rfl 1 (rfl : (1 : Int32) = nI 1) (by omega) (by decide) ?_
  refine v_eq (w' := nW ad N (va_up (va_up σ 13 (eJ G 25 (vp_updL (adA v 1 S) 1 (((adA v 1 S) 1) + (v 1))))) 16 (eJ G 80 w))) (congrArg (nW ad N) (n_extL [13, 16] ⟨rfl, rfl, trivial⟩ (fun q h => by simp only [List.mem_cons, List.not_mem_nil, or_false, not_or] at h; simp [va_up, h]))) rfl rfl ?_
  refine v_eq (w' := nW ad N (va_up (va_up σ 13 (eJ G 25 (adA v 2 S))) 16 (eJ G 80 w))) rfl rfl rfl ?_
  refine v_aload_n C eX12_compress32_395 rfl 0 rfl ?_
  refine n_get C I fX12_48_X12 eX12_compress32_396 (hN 49 (by decide)) h49 rfl ?_
  refine v_iconst (v := (2 : Int32)) C eX12_compress32_399 (by decide) ?_
  refine v_dup2_11 C eX12_compress32_400 rfl rfl ?_
  refine n_lald C I eX12_compress32_401 (hN 13 (by decide)) rfl 2 (rfl : (2 : Int32) = nI 2) (by omega) (by decide) ?_
  refine v_iload_n C eX12_compress32_402 rfl 3 rfl ?_
  refine v_i2l C eX12_compress32_403 ?_
  rw [hv 2 (by decide)]
  refine v_ladd C eX12_compress32_404 ?_
  refine n_last C I eX12_compress32_405 (hN 13 (by decide)) rfl 2 (rfl : (2 : Int32) = nI 2) (by omega) (by decide) ?_
  refine v_eq (w' := nW ad N (va_up (va_up σ 13 (eJ G 25 (vp_updL (adA v 2 S) 2 (((adA v 2 S) 2) + (v 2))))) 16 (eJ G 80 w))) (congrArg (nW ad N) (n_extL [13, 16] ⟨rfl, rfl, trivial⟩ (fun q h => by simp only [List.mem_cons, List.not_mem_nil, or_false, not_or] at h; simp [va_up, h]))) rfl rfl ?_
  refine v_eq (w' := nW ad N (va_up (va_up σ 13 (eJ G 25 (adA v 3 S))) 16 (eJ G 80 w))) rfl rfl rfl ?_
  refine v_aload_n C eX12_compress32_406 rfl 0 rfl ?_
  refine n_get C I fX12_48_X12 eX12_compress32_407 (hN 49 (by decide)) h49 rfl ?_
  refine v_iconst (v := (3 : Int32)) C eX12_compress32_410 (by decide) ?_
  refine v_dup2_11 C eX12_compress32_411 rfl rfl ?_
  refine n_lald C I eX12_compress32_412 (hN 13 (by decide)) rfl 3 (rfl : (3 : Int32) = nI 3) (by omega) (by decide) ?_
  refine v_iload C eX12_compress32_413 4 rfl ?_
  refine v_i2l C eX12_compress32_415 ?_
  rw [hv 3 (by decide)]
  refine v_ladd C eX12_compress32_416 ?_
  refine n_last C I eX12_compress32_417 (hN 13 (by decide)) rfl 3 (rfl : (3 : Int32) = nI 3) (by omega) (by decide) ?_
  refine v_eq (w' := nW ad N (va_up (va_up σ 13 (eJ G 25 (vp_updL (adA v 3 S) 3 (((adA v 3 S) 3) + (v 3))))) 16 (eJ G 80 w))) (congrArg (nW ad N) (n_extL [13, 16] ⟨rfl, rfl, trivial⟩ (fun q h => by simp only [List.mem_cons, List.not_mem_nil, or_false, not_or] at h; simp [va_up, h]))) rfl rfl ?_
  refine v_eq (w' := nW ad N (va_up (va_up σ 13 (eJ G 25 (adA v 4 S))) 16 (eJ G 80 w))) rfl rfl rfl ?_
  refine v_aload_n C eX12_compress32_418 rfl 0 rfl ?_
  refine n_get C I fX12_48_X12 eX12_compress32_419 (hN 49 (by decide)) h49 rfl ?_
  refine v_iconst (v := (4 : Int32)) C eX12_compress32_422 (by decide) ?_
  refine v_dup2_11 C eX12_compress32_423 rfl rfl ?_
  refine n_lald C I eX12_compress32_424 (hN 13 (by decide)) rfl 4 (rfl : (4 : Int32) = nI 4) (by omega) (by decide) ?_
  refine v_iload C eX12_compress32_425 5 rfl ?_
  refine v_i2l C eX12_compress32_427 ?_
  rw [hv 4 (by decide)]
  refine v_ladd C eX12_compress32_428 ?_
  refine n_last C I eX12_compress32_429 (hN 13 (by decide)) rfl 4 (rfl : (4 : Int32) = nI 4) (by omega) (by decide) ?_
  refine v_eq (w' := nW ad N (va_up (va_up σ 13 (eJ G 25 (vp_updL (adA v 4 S) 4 (((adA v 4 S) 4) + (v 4))))) 16 (eJ G 80 w))) (congrArg (nW ad N) (n_extL [13, 16] ⟨rfl, rfl, trivial⟩ (fun q h => by simp only [List.mem_cons, List.not_mem_nil, or_false, not_or] at h; simp [va_up, h]))) rfl rfl ?_
  refine v_eq (w' := nW ad N (va_up (va_up σ 13 (eJ G 25 (adA v 5 S))) 16 (eJ G 80 w))) rfl rfl rfl ?_
  refine v_aload_n C eX12_compress32_430 rfl 0 rfl ?_
  refine n_get C I fX12_48_X12 eX12_compress32_431 (hN 49 (by decide)) h49 rfl ?_
  refine v_iconst (v := (5 : Int32)) C eX12_compress32_434 (by decide) ?_
  refine v_dup2_11 C eX12_compress32_435 rfl rfl ?_
  refine n_lald C I eX12_compress32_436 (hN 13 (by decide)) rfl 5 (rfl : (5 : Int32) = nI 5) (by omega) (by decide) ?_
  refine v_iload C eX12_compress32_437 6 rfl ?_
  refine v_i2l C eX12_compress32_439 ?_
  rw [hv 5 (by decide)]
  refine v_ladd C eX12_compress32_440 ?_
  refine n_last C I eX12_compress32_441 (hN 13 (by decide)) rfl 5 (rfl : (5 : Int32) = nI 5) (by omega) (by decide) ?_
  refine v_eq (w' := nW ad N (va_up (va_up σ 13 (eJ G 25 (vp_updL (adA v 5 S) 5 (((adA v 5 S) 5) + (v 5))))) 16 (eJ G 80 w))) (congrArg (nW ad N) (n_extL [13, 16] ⟨rfl, rfl, trivial⟩ (fun q h => by simp only [List.mem_cons, List.not_mem_nil, or_false, not_or] at h; simp [va_up, h]))) rfl rfl ?_
  refine v_eq (w' := nW ad N (va_up (va_up σ 13 (eJ G 25 (adA v 6 S))) 16 (eJ G 80 w))) rfl rfl rfl ?_
  refine v_aload_n C eX12_compress32_442 rfl 0 rfl ?_
  refine n_get C I fX12_48_X12 eX12_compress32_443 (hN 49 (by decide)) h49 rfl ?_
  refine v_bipush (v := (6 : Int32)) C eX12_compress32_446 (by decide) ?_
  refine v_dup2_11 C eX12_compress32_448 rfl rfl ?_
  refine n_lald C I eX12_compress32_449 (hN 13 (by decide)) rfl 6 (rfl : (6 : Int32) = nI 6) (by omega) (by decide) ?_
  refine v_iload C eX12_compress32_450 7 rfl ?_
  refine v_i2l C eX12_compress32_452 ?_
  rw [hv 6 (by decide)]
  refine v_ladd C eX12_compress32_453 ?_
  refine n_last C I eX12_compress32_454 (hN 13 (by decide)) rfl 6 (rfl : (6 : Int32) = nI 6) (by omega) (by decide) ?_
  refine v_eq (w' := nW ad N (va_up (va_up σ 13 (eJ G 25 (vp_updL (adA v 6 S) 6 (((adA v 6 S) 6) + (v 6))))) 16 (eJ G 80 w))) (congrArg (nW ad N) (n_extL [13, 16] ⟨rfl, rfl, trivial⟩ (fun q h => by simp only [List.mem_cons, List.not_mem_nil, or_false, not_or] at h; simp [va_up, h]))) rfl rfl ?_
  refine v_eq (w' := nW ad N (va_up (va_up σ 13 (eJ G 25 (adA v 7 S))) 16 (eJ G 80 w))) rfl rfl rfl ?_
  refine v_aload_n C eX12_compress32_455 rfl 0 rfl ?_
  refine n_get C I fX12_48_X12 eX12_compress32_456 (hN 49 (by decide)) h49 rfl ?_
  refine v_bipush (v := (7 : Int32)) C eX12_compress32_459 (by decide) ?_
  refine v_dup2_11 C eX12_compress32_461 rfl rfl ?_
  refine n_lald C I eX12_compress32_462 (hN 13 (by decide)) rfl 7 (rfl : (7 : Int32) = nI 7) (by omega) (by decide) ?_
  refine v_iload C eX12_compress32_463 8 rfl ?_
  refine v_i2l C eX12_compress32_465 ?_
  rw [hv 7 (by decide)]
  refine v_ladd C eX12_compress32_466 ?_
  refine n_last C I eX12_compress32_467 (hN 13 (by decide)) rfl 7 (rfl : (7 : Int32) = nI 7) (by omega) (by decide) ?_
  refine v_eq (w' := nW ad N (va_up (va_up σ 13 (eJ G 25 (vp_updL (adA v 7 S) 7 (((adA v 7 S) 7) + (v 7))))) 16 (eJ G 80 w))) (congrArg (nW ad N) (n_extL [13, 16] ⟨rfl, rfl, trivial⟩ (fun q h => by simp only [List.mem_cons, List.not_mem_nil, or_false, not_or] at h; simp [va_up, h]))) rfl rfl ?_
  refine v_eq (w' := nW ad N (va_up (va_up σ 13 (eJ G 25 (adA v 8 S))) 16 (eJ G 80 w))) rfl rfl rfl ?_
  refine v_pick (lv' := [(0, .ref (ad 49))]) [0] rfl ?_
  exact kk

set_option maxRecDepth 100000 in
set_option maxHeartbeats 4000000 in
theorem c_compress32 (I : nI1 ad N) (hN : ∀ k, k < 74 → k < N) {σ : nS} {x : Nat → Int32} {t : Int64} {S w K : Nat → Int64} {Bk : Nat → Int32} (h13 : σ 13 = eJ G 25 S) (h16 : σ 16 = eJ G 80 w) (h49 : σ 49 = eO 9 (mO ad x t)) (h17 : σ 17 = eB G 128 Bk) (h6 : σ 6 = eJ G 80 K) : nOk G B l ad N yX12_compress32 cX12_compress32 12 none 1 0 0 [.ref (ad 49)] σ (fun r σ' => r = none ∧ σ' = va_up (va_up σ 13 (eJ G 25 (c32 K Bk w S))) 16 (eJ G 80 (c32W Bk w))) := by
  refine vOk.of (by decide +kernel) (Nat.le_of_ble_eq_true rfl) ?_
  intro p e s m args below meth c C
  refine v_eq (lv' := [(0, .ref (ad 49))]) rfl rfl rfl ?_
  refine v_eq (w' := nW ad N (va_up (va_up σ 13 (eJ G 25 S)) 16 (eJ G 80 w))) (congrArg (nW ad N) (n_extL [13, 16] ⟨h13, h16, trivial⟩ (fun q h => by simp only [List.mem_cons, List.not_mem_nil, or_false, not_or] at h; simp [va_up, h]))) rfl rfl ?_
  refine c32_1 I hN C h49 h17 h6 ?_
  refine c32_2 I hN C h49 h17 h6 rfl (by decide) (by decide) (by decide) ?_
  refine v_eq (w' := nW ad N (va_up (va_up σ 13 (eJ G 25 S)) 16 (eJ G 80 (c32W Bk w)))) rfl rfl rfl ?_
  refine v_aload_n C eX12_compress32_158 rfl 0 rfl ?_
  refine n_get C I fX12_48_X12 eX12_compress32_159 (hN 49 (by decide)) h49 rfl ?_
  refine v_iconst (v := (0 : Int32)) C eX12_compress32_162 (by decide) ?_
  refine n_lald C I eX12_compress32_163 (hN 13 (by decide)) rfl 0 (rfl : (0 : Int32) = nI 0) (by omega) (by decide) ?_
  refine v_l2i C eX12_compress32_164 ?_
  refine v_istore_n (lv' := [(0, .ref (ad 49)), (1, .int ((S 0).toInt32))]) C eX12_compress32_165 rfl (by decide) [1, 0] rfl ?_
  refine v_aload_n C eX12_compress32_166 rfl 0 rfl ?_
  refine n_get C I fX12_48_X12 eX12_compress32_167 (hN 49 (by decide)) h49 rfl ?_
  refine v_iconst (v := (1 : Int32)) C eX12_compress32_170 (by decide) ?_
  refine n_lald C I eX12_compress32_171 (hN 13 (by decide)) rfl 1 (rfl : (1 : Int32) = nI 1) (by omega) (by decide) ?_
  refine v_l2i C eX12_compress32_172 ?_
  refine v_istore_n (lv' := [(0, .ref (ad 49)), (1, .int ((S 0).toInt32)), (2, .int ((S 1).toInt32))]) C eX12_compress32_173 rfl (by decide) [1, 2, 0] rfl ?_
  refine v_aload_n C eX12_compress32_174 rfl 0 rfl ?_
  refine n_get C I fX12_48_X12 eX12_compress32_175 (hN 49 (by decide)) h49 rfl ?_
  refine v_iconst (v := (2 : Int32)) C eX12_compress32_178 (by decide) ?_
  refine n_lald C I eX12_compress32_179 (hN 13 (by decide)) rfl 2 (rfl : (2 : Int32) = nI 2) (by omega) (by decide) ?_
  refine v_l2i C eX12_compress32_180 ?_
  refine v_istore_n (lv' := [(0, .ref (ad 49)), (1, .int ((S 0).toInt32)), (2, .int ((S 1).toInt32)), (3, .int ((S 2).toInt32))]) C eX12_compress32_181 rfl (by decide) [1, 2, 3, 0] rfl ?_
  refine v_aload_n C eX12_compress32_182 rfl 0 rfl ?_
  refine n_get C I fX12_48_X12 eX12_compress32_183 (hN 49 (by decide)) h49 rfl ?_
  refine v_iconst (v := (3 : Int32)) C eX12_compress32_186 (by decide) ?_
  refine n_lald C I eX12_compress32_187 (hN 13 (by decide)) rfl 3 (rfl : (3 : Int32) = nI 3) (by omega) (by decide) ?_
  refine v_l2i C eX12_compress32_188 ?_
  refine v_istore (lv' := [(0, .ref (ad 49)), (1, .int ((S 0).toInt32)), (2, .int ((S 1).toInt32)), (3, .int ((S 2).toInt32)), (4, .int ((S 3).toInt32))]) C eX12_compress32_189 (by decide) [1, 2, 3, 4, 0] rfl ?_
  refine v_aload_n C eX12_compress32_191 rfl 0 rfl ?_
  refine n_get C I fX12_48_X12 eX12_compress32_192 (hN 49 (by decide)) h49 rfl ?_
  refine v_iconst (v := (4 : Int32)) C eX12_compress32_195 (by decide) ?_
  refine n_lald C I eX12_compress32_196 (hN 13 (by decide)) rfl 4 (rfl : (4 : Int32) = nI 4) (by omega) (by decide) ?_
  refine v_l2i C eX12_compress32_197 ?_
  refine v_istore (lv' := [(0, .ref (ad 49)), (1, .int ((S 0).toInt32)), (2, .int ((S 1).toInt32)), (3, .int ((S 2).toInt32)), (4, .int ((S 3).toInt32)), (5, .int ((S 4).toInt32))]) C eX12_compress32_198 (by decide) [1, 2, 3, 4, 5, 0] rfl ?_
  refine v_aload_n C eX12_compress32_200 rfl 0 rfl ?_
  refine n_get C I fX12_48_X12 eX12_compress32_201 (hN 49 (by decide)) h49 rfl ?_
  refine v_iconst (v := (5 : Int32)) C eX12_compress32_204 (by decide) ?_
  refine n_lald C I eX12_compress32_205 (hN 13 (by decide)) rfl 5 (rfl : (5 : Int32) = nI 5) (by omega) (by decide) ?_
  refine v_l2i C eX12_compress32_206 ?_
  refine v_istore (lv' := [(0, .ref (ad 49)), (1, .int ((S 0).toInt32)), (2, .int ((S 1).toInt32)), (3, .int ((S 2).toInt32)), (4, .int ((S 3).toInt32)), (5, .int ((S 4).toInt32)), (6, .int ((S 5).toInt32))]) C eX12_compress32_207 (by decide) [1, 2, 3, 4, 5, 6, 0] rfl ?_
  refine v_aload_n C eX12_compress32_209 rfl 0 rfl ?_
  refine n_get C I fX12_48_X12 eX12_compress32_210 (hN 49 (by decide)) h49 rfl ?_
  refine v_bipush (v := (6 : Int32)) C eX12_compress32_213 (by decide) ?_
  refine n_lald C I eX12_compress32_215 (hN 13 (by decide)) rfl 6 (rfl : (6 : Int32) = nI 6) (by omega) (by decide) ?_
  refine v_l2i C eX12_compress32_216 ?_
  refine v_istore (lv' := [(0, .ref (ad 49)), (1, .int ((S 0).toInt32)), (2, .int ((S 1).toInt32)), (3, .int ((S 2).toInt32)), (4, .int ((S 3).toInt32)), (5, .int ((S 4).toInt32)), (6, .int ((S 5).toInt32)), (7, .int ((S 6).toInt32))]) C eX12_compress32_217 (by decide) [1, 2, 3, 4, 5, 6, 7, 0] rfl ?_
  refine v_aload_n C eX12_compress32_219 rfl 0 rfl ?_
  refine n_get C I fX12_48_X12 eX12_compress32_220 (hN 49 (by decide)) h49 rfl ?_
  refine v_bipush (v := (7 : Int32)) C eX12_compress32_223 (by decide) ?_
  refine n_lald C I eX12_compress32_225 (hN 13 (by decide)) rfl 7 (rfl : (7 : Int32) = nI 7) (by omega) (by decide) ?_
  refine v_l2i C eX12_compress32_226 ?_
  refine v_istore (lv' := [(0, .ref (ad 49)), (1, .int ((S 0).toInt32)), (2, .int ((S 1).toInt32)), (3, .int ((S 2).toInt32)), (4, .int ((S 3).toInt32)), (5, .int ((S 4).toInt32)), (6, .int ((S 5).toInt32)), (7, .int ((S 6).toInt32)), (8, .int ((S 7).toInt32))]) C eX12_compress32_227 (by decide) [1, 2, 3, 4, 5, 6, 7, 8, 0] rfl ?_
  refine v_iconst (v := (0 : Int32)) C eX12_compress32_229 (by decide) ?_
  refine v_istore (lv' := [(0, .ref (ad 49)), (1, .int ((S 0).toInt32)), (2, .int ((S 1).toInt32)), (3, .int ((S 2).toInt32)), (4, .int ((S 3).toInt32)), (5, .int ((S 4).toInt32)), (6, .int ((S 5).toInt32)), (7, .int ((S 6).toInt32)), (8, .int ((S 7).toInt32)), (9, .int ((0 : Int32)))]) C eX12_compress32_230 (by decide) [1, 2, 3, 4, 5, 6, 7, 8, 9, 0] rfl ?_
  refine v_forV (fun i => va_up (va_up σ 13 (eJ G 25 S)) 16 (eJ G 80 (c32W Bk w))) (fun i => [(0, .ref (ad 49)), (1, .int ((itN (c32R K (c32W Bk w)) i (c32I S)).1)), (2, .int ((itN (c32R K (c32W Bk w)) i (c32I S)).2.1)), (3, .int ((itN (c32R K (c32W Bk w)) i (c32I S)).2.2.1)), (4, .int ((itN (c32R K (c32W Bk w)) i (c32I S)).2.2.2.1)), (5, .int ((itN (c32R K (c32W Bk w)) i (c32I S)).2.2.2.2.1)), (6, .int ((itN (c32R K (c32W Bk w)) i (c32I S)).2.2.2.2.2.1)), (7, .int ((itN (c32R K (c32W Bk w)) i (c32I S)).2.2.2.2.2.2.1)), (8, .int ((itN (c32R K (c32W Bk w)) i (c32I S)).2.2.2.2.2.2.2)), (9, .int (nI i))]) 64 ?_ ?_
  · refine v_iload C eX12_compress32_232 9 rfl ?_
    refine v_bipush (v := (64 : Int32)) C eX12_compress32_234 (by decide) ?_
    refine v_icmp_ge (tgt := 373) C eX12_compress32_236 (by decide) (fun _ => ?_) (fun h => absurd (ix_le (a := 64) (b := 64) (rfl : (64 : Int32) = nI 64) (rfl : nI 64 = nI 64) (by omega) (by omega) (by omega)) h)
    refine v_pick (lv' := [(0, .ref (ad 49)), (1, .int (q32g (itN (c32R K (c32W Bk w)) 64 (c32I S)) 0)), (2, .int (q32g (itN (c32R K (c32W Bk w)) 64 (c32I S)) 1)), (3, .int (q32g (itN (c32R K (c32W Bk w)) 64 (c32I S)) 2)), (4, .int (q32g (itN (c32R K (c32W Bk w)) 64 (c32I S)) 3)), (5, .int (q32g (itN (c32R K (c32W Bk w)) 64 (c32I S)) 4)), (6, .int (q32g (itN (c32R K (c32W Bk w)) 64 (c32I S)) 5)), (7, .int (q32g (itN (c32R K (c32W Bk w)) 64 (c32I S)) 6)), (8, .int (q32g (itN (c32R K (c32W Bk w)) 64 (c32I S)) 7))]) [0, 1, 2, 3, 4, 5, 6, 7, 8] rfl ?_
    refine c32_5 I hN C h49 h17 h6 (itN (c32R K (c32W Bk w)) 64 (c32I S)) (fun i => (q32g (itN (c32R K (c32W Bk w)) 64 (c32I S)) i).toInt64) (fun _ _ => rfl) ?_
    exact n_vret C rfl eX12_compress32_468 ⟨rfl, rfl⟩
  · intro i hi ih
    refine v_iload C eX12_compress32_232 9 rfl ?_
    refine v_bipush (v := (64 : Int32)) C eX12_compress32_234 (by decide) ?_
    refine v_icmp_ge (tgt := 373) C eX12_compress32_236 (by decide) (fun h => absurd h (ix_nle (a := 64) (b := i) (rfl : (64 : Int32) = nI 64) (rfl : nI i = nI i) (by omega) (by omega) (by omega))) (fun _ => ?_)
    rw [show itN (c32R K (c32W Bk w)) (i + 1) (c32I S) = c32R K (c32W Bk w) i (itN (c32R K (c32W Bk w)) i (c32I S)) from rfl] at ih
    generalize itN (c32R K (c32W Bk w)) i (c32I S) = q at ih ⊢
    obtain ⟨a0, b0, c0, d0, e0, f0, g0, h0⟩ := q
    exact c32_4 I hN C h49 h17 h6 i hi a0 b0 c0 d0 e0 f0 g0 h0 rfl (by decide) (by decide) (by decide) ih

end M3
end
section
theorem eX12_put_0 : vD cX12_put 0 (.aload_n 0) 1 1 := ⟨by decide +kernel, rfl⟩
theorem eX12_put_1 : vD cX12_put 1 (.invokevirtual 198) 3 4 := ⟨by decide +kernel, rfl⟩
theorem eX12_put_4 : vD cX12_put 4 (.ifCond .eq 15) 3 7 := ⟨by decide +kernel, rfl⟩
theorem eX12_put_7 : vD cX12_put 7 (.aload_n 0) 1 8 := ⟨by decide +kernel, rfl⟩
theorem eX12_put_8 : vD cX12_put 8 (.aload_n 0) 1 9 := ⟨by decide +kernel, rfl⟩
theorem eX12_put_9 : vD cX12_put 9 (.getfield 180) 3 12 := ⟨by decide +kernel, rfl⟩
theorem eX12_put_12 : vD cX12_put 12 (.iload_n 1) 1 13 := ⟨by decide +kernel, rfl⟩
theorem eX12_put_13 : vD cX12_put 13 (.invokevirtual 202) 3 16 := ⟨by decide +kernel, rfl⟩
theorem eX12_put_16 : vD cX12_put 16 (.goto 14) 3 19 := ⟨by decide +kernel, rfl⟩
theorem eX12_put_19 : vD cX12_put 19 (.aload_n 0) 1 20 := ⟨by decide +kernel, rfl⟩
theorem eX12_put_20 : vD cX12_put 20 (.getfield 60) 3 23 := ⟨by decide +kernel, rfl⟩
theorem eX12_put_23 : vD cX12_put 23 (.aload_n 0) 1 24 := ⟨by decide +kernel, rfl⟩
theorem eX12_put_24 : vD cX12_put 24 (.getfield 180) 3 27 := ⟨by decide +kernel, rfl⟩
theorem eX12_put_27 : vD cX12_put 27 (.iload_n 1) 1 28 := ⟨by decide +kernel, rfl⟩
theorem eX12_put_28 : vD cX12_put 28 .i2b 1 29 := ⟨by decide +kernel, rfl⟩
theorem eX12_put_29 : vD cX12_put 29 .bastore 1 30 := ⟨by decide +kernel, rfl⟩
theorem eX12_put_30 : vD cX12_put 30 (.aload_n 0) 1 31 := ⟨by decide +kernel, rfl⟩
theorem eX12_put_31 : vD cX12_put 31 .dup 1 32 := ⟨by decide +kernel, rfl⟩
theorem eX12_put_32 : vD cX12_put 32 (.getfield 180) 3 35 := ⟨by decide +kernel, rfl⟩
theorem eX12_put_35 : vD cX12_put 35 (.iconst 1) 1 36 := ⟨by decide +kernel, rfl⟩
theorem eX12_put_36 : vD cX12_put 36 .iadd 1 37 := ⟨by decide +kernel, rfl⟩
theorem eX12_put_37 : vD cX12_put 37 (.putfield 180) 3 40 := ⟨by decide +kernel, rfl⟩
theorem eX12_put_40 : vD cX12_put 40 (.aload_n 0) 1 41 := ⟨by decide +kernel, rfl⟩
theorem eX12_put_41 : vD cX12_put 41 .dup 1 42 := ⟨by decide +kernel, rfl⟩
theorem eX12_put_42 : vD cX12_put 42 (.getfield 183) 3 45 := ⟨by decide +kernel, rfl⟩
theorem eX12_put_45 : vD cX12_put 45 (.lconst 1) 1 46 := ⟨by decide +kernel, rfl⟩
theorem eX12_put_46 : vD cX12_put 46 .ladd 1 47 := ⟨by decide +kernel, rfl⟩
theorem eX12_put_47 : vD cX12_put 47 (.putfield 183) 3 50 := ⟨by decide +kernel, rfl⟩
theorem eX12_put_50 : vD cX12_put 50 (.aload_n 0) 1 51 := ⟨by decide +kernel, rfl⟩
theorem eX12_put_51 : vD cX12_put 51 (.getfield 180) 3 54 := ⟨by decide +kernel, rfl⟩
theorem eX12_put_54 : vD cX12_put 54 (.aload_n 0) 1 55 := ⟨by decide +kernel, rfl⟩
theorem eX12_put_55 : vD cX12_put 55 (.getfield 193) 3 58 := ⟨by decide +kernel, rfl⟩
theorem eX12_put_58 : vD cX12_put 58 (.if_icmp .ne 42) 3 61 := ⟨by decide +kernel, rfl⟩
theorem eX12_put_61 : vD cX12_put 61 (.aload_n 0) 1 62 := ⟨by decide +kernel, rfl⟩
theorem eX12_put_62 : vD cX12_put 62 (.invokevirtual 198) 3 65 := ⟨by decide +kernel, rfl⟩
theorem eX12_put_65 : vD cX12_put 65 (.ifCond .eq 10) 3 68 := ⟨by decide +kernel, rfl⟩
theorem eX12_put_68 : vD cX12_put 68 (.aload_n 0) 1 69 := ⟨by decide +kernel, rfl⟩
theorem eX12_put_69 : vD cX12_put 69 (.invokevirtual 206) 3 72 := ⟨by decide +kernel, rfl⟩
theorem eX12_put_72 : vD cX12_put 72 (.goto 23) 3 75 := ⟨by decide +kernel, rfl⟩
theorem eX12_put_75 : vD cX12_put 75 (.aload_n 0) 1 76 := ⟨by decide +kernel, rfl⟩
theorem eX12_put_76 : vD cX12_put 76 (.getfield 193) 3 79 := ⟨by decide +kernel, rfl⟩
theorem eX12_put_79 : vD cX12_put 79 (.bipush 64) 2 81 := ⟨by decide +kernel, rfl⟩
theorem eX12_put_81 : vD cX12_put 81 (.if_icmp .ne 10) 3 84 := ⟨by decide +kernel, rfl⟩
theorem eX12_put_84 : vD cX12_put 84 (.aload_n 0) 1 85 := ⟨by decide +kernel, rfl⟩
theorem eX12_put_85 : vD cX12_put 85 (.invokevirtual 209) 3 88 := ⟨by decide +kernel, rfl⟩
theorem eX12_put_88 : vD cX12_put 88 (.goto 7) 3 91 := ⟨by decide +kernel, rfl⟩
theorem eX12_put_91 : vD cX12_put 91 (.aload_n 0) 1 92 := ⟨by decide +kernel, rfl⟩
theorem eX12_put_92 : vD cX12_put 92 (.invokevirtual 212) 3 95 := ⟨by decide +kernel, rfl⟩
theorem eX12_put_95 : vD cX12_put 95 (.aload_n 0) 1 96 := ⟨by decide +kernel, rfl⟩
theorem eX12_put_96 : vD cX12_put 96 (.iconst 0) 1 97 := ⟨by decide +kernel, rfl⟩
theorem eX12_put_97 : vD cX12_put 97 (.putfield 180) 3 100 := ⟨by decide +kernel, rfl⟩
theorem eX12_put_100 : vD cX12_put 100 .return_ 1 101 := ⟨by decide +kernel, rfl⟩

/-! THE REFERENCE'S STREAM: what a hash in the making is. S the state, O D the sponge's side rows, W the words, Bk the block, how many bytes stand in it, how many there were -/
abbrev hT : Type := (Nat → Int64) × (Nat → Int64) × (Nat → Int64) × (Nat → Int64) × (Nat → Int32) × Nat × Int64
/-- kinds: 1 SHA-256, 3 SHA-512, 12 SHAKE256 -/
def rateK (k : Nat) : Nat := if k = 1 then 64 else if k = 3 then 128 else 136
def hσ (G : vG) (ad : Nat → Nat) (σ : nS) (x : Nat → Int32) (k : Nat) (h : hT) : nS := va_up (va_up (va_up (va_up (va_up (va_up σ 13 (eJ G 25 h.1)) 14 (eJ G 25 h.2.1)) 15 (eJ G 5 h.2.2.1)) 16 (eJ G 80 h.2.2.2.1)) 17 (eB G 128 h.2.2.2.2.1)) 49 (eO 9 (mO ad (upd (upd (upd x 18 (nI k)) 19 (nI (rateK k))) 20 (nI h.2.2.2.2.2.1)) h.2.2.2.2.2.2))
def hBlk (T : Nat → Int32) (Rc K : Nat → Int64) (k : Nat) (h : hT) : hT := match h with
  | (S, O, D, W, Bk, _, t) => if k = 12 then ((itN (pmR T Rc) 24 (S, O, D)).1, (itN (pmR T Rc) 24 (S, O, D)).2.1, (itN (pmR T Rc) 24 (S, O, D)).2.2, W, Bk, 0, t) else if k = 1 then (c32 K Bk W S, O, D, c32W Bk W, Bk, 0, t) else (c64 K Bk W S, O, D, c64W Bk W, Bk, 0, t)
def hPut1 (k : Nat) (v : Int32) (h : hT) : hT := match h with
  | (S, O, D, W, Bk, f, t) => if k = 12 then (sp1 S f v, O, D, W, Bk, f + 1, t + 1) else (S, O, D, W, upd Bk f (vp_nar .byte v.toInt8.toInt32), f + 1, t + 1)
/-- one byte more -/
def hPut (T : Nat → Int32) (Rc K : Nat → Int64) (k : Nat) (v : Int32) (h : hT) : hT := if h.2.2.2.2.2.1 + 1 = rateK k then hBlk T Rc K k (hPut1 k v h) else hPut1 k v h
section M4
variable {G : vG} {B : Nat} {l : Launch} {ad : Nat → Nat} {N : Nat}
set_option maxRecDepth 100000 in
set_option maxHeartbeats 4000000 in
theorem c_put1 (I : nI1 ad N) (hN : ∀ k, k < 74 → k < N) {σ : nS} {x T : Nat → Int32} {Rc K : Nat → Int64} (h11 : σ 11 = eI G 25 T) (h12 : σ 12 = eJ G 24 Rc) (h6 : σ 6 = eJ G 80 K) (S O D W : Nat → Int64) (Bk : Nat → Int32) (fl : Nat) (tt : Int64) (v : Int32) (hf : fl < 64) : nOk G B l ad N yX12_put cX12_put 2 none 2 0 0 [.ref (ad 49), .int v] (hσ G ad σ x 1 (S, O, D, W, Bk, fl, tt)) (fun r σ' => r = none ∧ σ' = hσ G ad σ x 1 (hPut T Rc K 1 v (S, O, D, W, Bk, fl, tt))) := by
  refine vOk.of (by decide +kernel) (Nat.le_of_ble_eq_true rfl) ?_
  intro p e s m args below meth c C
  refine v_eq (lv' := [(0, .ref (ad 49)), (1, .int v)]) rfl rfl rfl ?_
  refine v_eq (w' := nW ad N (va_up (va_up (va_up (va_up (va_up (va_up σ 13 (eJ G 25 S)) 14 (eJ G 25 O)) 15 (eJ G 5 D)) 16 (eJ G 80 W)) 17 (eB G 128 Bk)) 49 (eO 9 (mO ad (upd (upd (upd x 18 (nI 1)) 19 (nI (rateK 1))) 20 (nI fl)) tt)))) rfl rfl rfl ?_
  refine v_aload_n C eX12_put_0 rfl 0 rfl ?_
  refine n_callV (As := []) (rest := []) C I mX12_198 (c_sponge I hN rfl) (hN 49 (by decide)) rfl rfl (by omega) (by decide) ⟨by decide, by decide⟩ rfl rfl (Nat.le_of_ble_eq_true rfl) eX12_put_1 (fun r σ' hp => ?_)
  obtain ⟨rfl, rfl⟩ := hp
  refine v_if_eq (tgt := 19) C eX12_put_4 (by decide) (fun _ => ?_) (fun h => absurd (show (if nI 1 ≤ (6 : Int32) then (0 : Int32) else 1) = 0 from by decide +kernel) h)
  refine v_aload_n C eX12_put_19 rfl 0 rfl ?_
  refine n_get C I fX12_60_X12 eX12_put_20 (hN 49 (by decide)) rfl rfl ?_
  refine v_aload_n C eX12_put_23 rfl 0 rfl ?_
  refine n_get C I fX12_180_X12 eX12_put_24 (hN 49 (by decide)) rfl rfl ?_
  refine v_iload_n C eX12_put_27 rfl 1 rfl ?_
  refine v_i2b C eX12_put_28 ?_
  refine n_bast C I eX12_put_29 (hN 17 (by decide)) rfl fl (rfl : nI fl = nI fl) (by have : rateK 1 = 64 := rfl; omega) (by decide) ?_
  refine v_aload_n C eX12_put_30 rfl 0 rfl ?_
  refine v_dup C eX12_put_31 rfl ?_
  refine n_get C I fX12_180_X12 eX12_put_32 (hN 49 (by decide)) rfl rfl ?_
  refine v_iconst (v := (1 : Int32)) C eX12_put_35 (by decide) ?_
  refine v_iadd C eX12_put_36 ?_
  refine v_natT (show (nI fl) + ((1 : Int32)) = nI (fl + 1) from (ix_add (a := fl) (b := 1) (rfl : nI fl = nI fl) (rfl : (1 : Int32) = nI 1))) ?_
  refine n_put (fs' := mO ad (upd (upd (upd x 18 (nI 1)) 19 (nI (rateK 1))) 20 (nI (fl + 1))) tt) C I fX12_180_X12p eX12_put_37 (hN 49 (by decide)) rfl rfl rfl (Nat.le_of_ble_eq_true rfl) rfl ?_
  refine v_aload_n C eX12_put_40 rfl 0 rfl ?_
  refine v_dup C eX12_put_41 rfl ?_
  refine n_get C I fX12_183_X12 eX12_put_42 (hN 49 (by decide)) rfl rfl ?_
  refine v_lconst (v := (1 : Int64)) C eX12_put_45 (by decide) ?_
  refine v_ladd C eX12_put_46 ?_
  refine n_put (fs' := mO ad (upd (upd (upd x 18 (nI 1)) 19 (nI (rateK 1))) 20 (nI (fl + 1))) (tt + ((1 : Int64)))) C I fX12_183_X12p eX12_put_47 (hN 49 (by decide)) rfl rfl rfl (Nat.le_of_ble_eq_true rfl) rfl ?_
  refine v_aload_n C eX12_put_50 rfl 0 rfl ?_
  refine n_get C I fX12_180_X12 eX12_put_51 (hN 49 (by decide)) rfl rfl ?_
  refine v_aload_n C eX12_put_54 rfl 0 rfl ?_
  refine n_get C I fX12_193_X12 eX12_put_55 (hN 49 (by decide)) rfl rfl ?_
  refine v_icmp_ne (tgt := 100) C eX12_put_58 (by decide) (fun c1 => ?_) (fun c1 => ?_)
  · refine v_eq (w' := nW ad N (va_up (va_up (va_up (va_up (va_up (va_up σ 13 (eJ G 25 S)) 14 (eJ G 25 O)) 15 (eJ G 5 D)) 16 (eJ G 80 W)) 17 (eB G 128 (upd Bk fl (vp_nar .byte v.toInt8.toInt32)))) 49 (eO 9 (mO ad (upd (upd (upd x 18 (nI 1)) 19 (nI (rateK 1))) 20 (nI (fl + 1))) (tt + ((1 : Int64))))))) (congrArg (nW ad N) (n_extL [13, 14, 15, 16, 17, 49] ⟨rfl, rfl, rfl, rfl, rfl, rfl, trivial⟩ (fun q h => by simp only [List.mem_cons, List.not_mem_nil, or_false, not_or] at h; simp [va_up, h]))) rfl rfl ?_
    exact n_vret C rfl eX12_put_100 ⟨rfl, by rw [hPut, if_neg (fun q : fl + 1 = rateK 1 => c1 (congrArg nI q))]; rfl⟩
  · refine v_aload_n C eX12_put_61 rfl 0 rfl ?_
    refine n_callV (As := []) (rest := []) C I mX12_198 (c_sponge I hN rfl) (hN 49 (by decide)) rfl rfl (by omega) (by decide) ⟨by decide, by decide⟩ rfl rfl (Nat.le_of_ble_eq_true rfl) eX12_put_62 (fun r σ' hp => ?_)
    obtain ⟨rfl, rfl⟩ := hp
    refine v_if_eq (tgt := 75) C eX12_put_65 (by decide) (fun _ => ?_) (fun h => absurd (show (if nI 1 ≤ (6 : Int32) then (0 : Int32) else 1) = 0 from by decide +kernel) h)
    refine v_aload_n C eX12_put_75 rfl 0 rfl ?_
    refine n_get C I fX12_193_X12 eX12_put_76 (hN 49 (by decide)) rfl rfl ?_
    refine v_bipush (v := (64 : Int32)) C eX12_put_79 (by decide) ?_
    refine v_icmp_ne (tgt := 91) C eX12_put_81 (by decide) (fun h => absurd (ix_eq (a := 64) (b := 64) (rfl : nI (rateK 1) = nI 64) (rfl : (64 : Int32) = nI 64) (by omega) (by omega) (by omega)) h) (fun _ => ?_)
    refine v_aload_n C eX12_put_84 rfl 0 rfl ?_
    refine n_callV (As := []) (rest := []) C I mX12_209 (c_compress32 I hN rfl rfl rfl rfl h6) (hN 49 (by decide)) rfl rfl (by omega) (by decide) ⟨by decide, by decide⟩ rfl rfl (Nat.le_of_ble_eq_true rfl) eX12_put_85 (fun r σ' hp => ?_)
    obtain ⟨rfl, rfl⟩ := hp
    refine v_goto (tgt := 95) C eX12_put_88 (by decide) ?_
    refine v_aload_n C eX12_put_95 rfl 0 rfl ?_
    refine v_iconst (v := nI 0) C eX12_put_96 (by decide) ?_
    refine n_put (fs' := mO ad (upd (upd (upd x 18 (nI 1)) 19 (nI (rateK 1))) 20 (nI 0)) (tt + ((1 : Int64)))) C I fX12_180_X12p eX12_put_97 (hN 49 (by decide)) rfl rfl rfl (Nat.le_of_ble_eq_true rfl) rfl ?_
    refine v_eq (w' := nW ad N (va_up (va_up (va_up (va_up (va_up (va_up σ 13 (eJ G 25 (c32 K (upd Bk fl (vp_nar .byte v.toInt8.toInt32)) W S))) 14 (eJ G 25 O)) 15 (eJ G 5 D)) 16 (eJ G 80 (c32W (upd Bk fl (vp_nar .byte v.toInt8.toInt32)) W))) 17 (eB G 128 (upd Bk fl (vp_nar .byte v.toInt8.toInt32)))) 49 (eO 9 (mO ad (upd (upd (upd x 18 (nI 1)) 19 (nI (rateK 1))) 20 (nI 0)) (tt + ((1 : Int64))))))) (congrArg (nW ad N) (n_extL [13, 14, 15, 16, 17, 49] ⟨rfl, rfl, rfl, rfl, rfl, rfl, trivial⟩ (fun q h => by simp only [List.mem_cons, List.not_mem_nil, or_false, not_or] at h; simp [va_up, h]))) rfl rfl ?_
    have hq : fl + 1 = rateK 1 := (nI_eq (by omega) (by decide)).mp c1
    exact n_vret C rfl eX12_put_100 ⟨rfl, by rw [hPut, if_pos hq]; rfl⟩

set_option maxRecDepth 100000 in
set_option maxHeartbeats 4000000 in
theorem c_put3 (I : nI1 ad N) (hN : ∀ k, k < 74 → k < N) {σ : nS} {x T : Nat → Int32} {Rc K : Nat → Int64} (h11 : σ 11 = eI G 25 T) (h12 : σ 12 = eJ G 24 Rc) (h6 : σ 6 = eJ G 80 K) (S O D W : Nat → Int64) (Bk : Nat → Int32) (fl : Nat) (tt : Int64) (v : Int32) (hf : fl < 128) : nOk G B l ad N yX12_put cX12_put 2 none 2 0 0 [.ref (ad 49), .int v] (hσ G ad σ x 3 (S, O, D, W, Bk, fl, tt)) (fun r σ' => r = none ∧ σ' = hσ G ad σ x 3 (hPut T Rc K 3 v (S, O, D, W, Bk, fl, tt))) := by
  refine vOk.of (by decide +kernel) (Nat.le_of_ble_eq_true rfl) ?_
  intro p e s m args below meth c C
  refine v_eq (lv' := [(0, .ref (ad 49)), (1, .int v)]) rfl rfl rfl ?_
  refine v_eq (w' := nW ad N (va_up (va_up (va_up (va_up (va_up (va_up σ 13 (eJ G 25 S)) 14 (eJ G 25 O)) 15 (eJ G 5 D)) 16 (eJ G 80 W)) 17 (eB G 128 Bk)) 49 (eO 9 (mO ad (upd (upd (upd x 18 (nI 3)) 19 (nI (rateK 3))) 20 (nI fl)) tt)))) rfl rfl rfl ?_
  refine v_aload_n C eX12_put_0 rfl 0 rfl ?_
  refine n_callV (As := []) (rest := []) C I mX12_198 (c_sponge I hN rfl) (hN 49 (by decide)) rfl rfl (by omega) (by decide) ⟨by decide, by decide⟩ rfl rfl (Nat.le_of_ble_eq_true rfl) eX12_put_1 (fun r σ' hp => ?_)
  obtain ⟨rfl, rfl⟩ := hp
  refine v_if_eq (tgt := 19) C eX12_put_4 (by decide) (fun _ => ?_) (fun h => absurd (show (if nI 3 ≤ (6 : Int32) then (0 : Int32) else 1) = 0 from by decide +kernel) h)
  refine v_aload_n C eX12_put_19 rfl 0 rfl ?_
  refine n_get C I fX12_60_X12 eX12_put_20 (hN 49 (by decide)) rfl rfl ?_
  refine v_aload_n C eX12_put_23 rfl 0 rfl ?_
  refine n_get C I fX12_180_X12 eX12_put_24 (hN 49 (by decide)) rfl rfl ?_
  refine v_iload_n C eX12_put_27 rfl 1 rfl ?_
  refine v_i2b C eX12_put_28 ?_
  refine n_bast C I eX12_put_29 (hN 17 (by decide)) rfl fl (rfl : nI fl = nI fl) (by have : rateK 3 = 128 := rfl; omega) (by decide) ?_
  refine v_aload_n C eX12_put_30 rfl 0 rfl ?_
  refine v_dup C eX12_put_31 rfl ?_
  refine n_get C I fX12_180_X12 eX12_put_32 (hN 49 (by decide)) rfl rfl ?_
  refine v_iconst (v := (1 : Int32)) C eX12_put_35 (by decide) ?_
  refine v_iadd C eX12_put_36 ?_
  refine v_natT (show (nI fl) + ((1 : Int32)) = nI (fl + 1) from (ix_add (a := fl) (b := 1) (rfl : nI fl = nI fl) (rfl : (1 : Int32) = nI 1))) ?_
  refine n_put (fs' := mO ad (upd (upd (upd x 18 (nI 3)) 19 (nI (rateK 3))) 20 (nI (fl + 1))) tt) C I fX12_180_X12p eX12_put_37 (hN 49 (by decide)) rfl rfl rfl (Nat.le_of_ble_eq_true rfl) rfl ?_
  refine v_aload_n C eX12_put_40 rfl 0 rfl ?_
  refine v_dup C eX12_put_41 rfl ?_
  refine n_get C I fX12_183_X12 eX12_put_42 (hN 49 (by decide)) rfl rfl ?_
  refine v_lconst (v := (1 : Int64)) C eX12_put_45 (by decide) ?_
  refine v_ladd C eX12_put_46 ?_
  refine n_put (fs' := mO ad (upd (upd (upd x 18 (nI 3)) 19 (nI (rateK 3))) 20 (nI (fl + 1))) (tt + ((1 : Int64)))) C I fX12_183_X12p eX12_put_47 (hN 49 (by decide)) rfl rfl rfl (Nat.le_of_ble_eq_true rfl) rfl ?_
  refine v_aload_n C eX12_put_50 rfl 0 rfl ?_
  refine n_get C I fX12_180_X12 eX12_put_51 (hN 49 (by decide)) rfl rfl ?_
  refine v_aload_n C eX12_put_54 rfl 0 rfl ?_
  refine n_get C I fX12_193_X12 eX12_put_55 (hN 49 (by decide)) rfl rfl ?_
  refine v_icmp_ne (tgt := 100) C eX12_put_58 (by decide) (fun c1 => ?_) (fun c1 => ?_)
  · refine v_eq (w' := nW ad N (va_up (va_up (va_up (va_up (va_up (va_up σ 13 (eJ G 25 S)) 14 (eJ G 25 O)) 15 (eJ G 5 D)) 16 (eJ G 80 W)) 17 (eB G 128 (upd Bk fl (vp_nar .byte v.toInt8.toInt32)))) 49 (eO 9 (mO ad (upd (upd (upd x 18 (nI 3)) 19 (nI (rateK 3))) 20 (nI (fl + 1))) (tt + ((1 : Int64))))))) (congrArg (nW ad N) (n_extL [13, 14, 15, 16, 17, 49] ⟨rfl, rfl, rfl, rfl, rfl, rfl, trivial⟩ (fun q h => by simp only [List.mem_cons, List.not_mem_nil, or_false, not_or] at h; simp [va_up, h]))) rfl rfl ?_
    exact n_vret C rfl eX12_put_100 ⟨rfl, by rw [hPut, if_neg (fun q : fl + 1 = rateK 3 => c1 (congrArg nI q))]; rfl⟩
  · refine v_aload_n C eX12_put_61 rfl 0 rfl ?_
    refine n_callV (As := []) (rest := []) C I mX12_198 (c_sponge I hN rfl) (hN 49 (by decide)) rfl rfl (by omega) (by decide) ⟨by decide, by decide⟩ rfl rfl (Nat.le_of_ble_eq_true rfl) eX12_put_62 (fun r σ' hp => ?_)
    obtain ⟨rfl, rfl⟩ := hp
    refine v_if_eq (tgt := 75) C eX12_put_65 (by decide) (fun _ => ?_) (fun h => absurd (show (if nI 3 ≤ (6 : Int32) then (0 : Int32) else 1) = 0 from by decide +kernel) h)
    refine v_aload_n C eX12_put_75 rfl 0 rfl ?_
    refine n_get C I fX12_193_X12 eX12_put_76 (hN 49 (by decide)) rfl rfl ?_
    refine v_bipush (v := (64 : Int32)) C eX12_put_79 (by decide) ?_
    refine v_icmp_ne (tgt := 91) C eX12_put_81 (by decide) (fun _ => ?_) (fun h => absurd h (ix_ne (a := 128) (b := 64) (rfl : nI (rateK 3) = nI 128) (rfl : (64 : Int32) = nI 64) (by omega) (by omega) (by omega)))
    refine v_aload_n C eX12_put_91 rfl 0 rfl ?_
    refine n_callV (As := []) (rest := []) C I mX12_212 (c_compress64 I hN rfl rfl rfl rfl h6) (hN 49 (by decide)) rfl rfl (by omega) (by decide) ⟨by decide, by decide⟩ rfl rfl (Nat.le_of_ble_eq_true rfl) eX12_put_92 (fun r σ' hp => ?_)
    obtain ⟨rfl, rfl⟩ := hp
    refine v_aload_n C eX12_put_95 rfl 0 rfl ?_
    refine v_iconst (v := nI 0) C eX12_put_96 (by decide) ?_
    refine n_put (fs' := mO ad (upd (upd (upd x 18 (nI 3)) 19 (nI (rateK 3))) 20 (nI 0)) (tt + ((1 : Int64)))) C I fX12_180_X12p eX12_put_97 (hN 49 (by decide)) rfl rfl rfl (Nat.le_of_ble_eq_true rfl) rfl ?_
    refine v_eq (w' := nW ad N (va_up (va_up (va_up (va_up (va_up (va_up σ 13 (eJ G 25 (c64 K (upd Bk fl (vp_nar .byte v.toInt8.toInt32)) W S))) 14 (eJ G 25 O)) 15 (eJ G 5 D)) 16 (eJ G 80 (c64W (upd Bk fl (vp_nar .byte v.toInt8.toInt32)) W))) 17 (eB G 128 (upd Bk fl (vp_nar .byte v.toInt8.toInt32)))) 49 (eO 9 (mO ad (upd (upd (upd x 18 (nI 3)) 19 (nI (rateK 3))) 20 (nI 0)) (tt + ((1 : Int64))))))) (congrArg (nW ad N) (n_extL [13, 14, 15, 16, 17, 49] ⟨rfl, rfl, rfl, rfl, rfl, rfl, trivial⟩ (fun q h => by simp only [List.mem_cons, List.not_mem_nil, or_false, not_or] at h; simp [va_up, h]))) rfl rfl ?_
    have hq : fl + 1 = rateK 3 := (nI_eq (by omega) (by decide)).mp c1
    exact n_vret C rfl eX12_put_100 ⟨rfl, by rw [hPut, if_pos hq]; rfl⟩

set_option maxRecDepth 100000 in
set_option maxHeartbeats 4000000 in
theorem c_put12 (I : nI1 ad N) (hN : ∀ k, k < 74 → k < N) {σ : nS} {x T : Nat → Int32} {Rc K : Nat → Int64} (h11 : σ 11 = eI G 25 T) (h12 : σ 12 = eJ G 24 Rc) (h6 : σ 6 = eJ G 80 K) (S O D W : Nat → Int64) (Bk : Nat → Int32) (fl : Nat) (tt : Int64) (v : Int32) (hf : fl < 136) : nOk G B l ad N yX12_put cX12_put 2 none 2 0 0 [.ref (ad 49), .int v] (hσ G ad σ x 12 (S, O, D, W, Bk, fl, tt)) (fun r σ' => r = none ∧ σ' = hσ G ad σ x 12 (hPut T Rc K 12 v (S, O, D, W, Bk, fl, tt))) := by
  refine vOk.of (by decide +kernel) (Nat.le_of_ble_eq_true rfl) ?_
  intro p e s m args below meth c C
  refine v_eq (lv' := [(0, .ref (ad 49)), (1, .int v)]) rfl rfl rfl ?_
  refine v_eq (w' := nW ad N (va_up (va_up (va_up (va_up (va_up (va_up σ 13 (eJ G 25 S)) 14 (eJ G 25 O)) 15 (eJ G 5 D)) 16 (eJ G 80 W)) 17 (eB G 128 Bk)) 49 (eO 9 (mO ad (upd (upd (upd x 18 (nI 12)) 19 (nI (rateK 12))) 20 (nI fl)) tt)))) rfl rfl rfl ?_
  refine v_aload_n C eX12_put_0 rfl 0 rfl ?_
  refine n_callV (As := []) (rest := []) C I mX12_198 (c_sponge I hN rfl) (hN 49 (by decide)) rfl rfl (by omega) (by decide) ⟨by decide, by decide⟩ rfl rfl (Nat.le_of_ble_eq_true rfl) eX12_put_1 (fun r σ' hp => ?_)
  obtain ⟨rfl, rfl⟩ := hp
  refine v_if_eq (tgt := 19) C eX12_put_4 (by decide) (fun h => absurd h (show ¬ (if nI 12 ≤ (6 : Int32) then (0 : Int32) else 1) = 0 from by decide +kernel)) (fun _ => ?_)
  refine v_aload_n C eX12_put_7 rfl 0 rfl ?_
  refine v_aload_n C eX12_put_8 rfl 0 rfl ?_
  refine n_get C I fX12_180_X12 eX12_put_9 (hN 49 (by decide)) rfl rfl ?_
  refine v_iload_n C eX12_put_12 rfl 1 rfl ?_
  refine n_callV (As := [.int (nI fl), .int v]) (rest := []) C I mX12_202 (c_flip I hN rfl rfl fl v (by omega)) (hN 49 (by decide)) rfl rfl (by omega) (by decide) ⟨by decide, by decide⟩ rfl rfl (Nat.le_of_ble_eq_true rfl) eX12_put_13 (fun r σ' hp => ?_)
  obtain ⟨rfl, rfl⟩ := hp
  refine v_goto (tgt := 30) C eX12_put_16 (by decide) ?_
  refine v_aload_n C eX12_put_30 rfl 0 rfl ?_
  refine v_dup C eX12_put_31 rfl ?_
  refine n_get C I fX12_180_X12 eX12_put_32 (hN 49 (by decide)) rfl rfl ?_
  refine v_iconst (v := (1 : Int32)) C eX12_put_35 (by decide) ?_
  refine v_iadd C eX12_put_36 ?_
  refine v_natT (show (nI fl) + ((1 : Int32)) = nI (fl + 1) from (ix_add (a := fl) (b := 1) (rfl : nI fl = nI fl) (rfl : (1 : Int32) = nI 1))) ?_
  refine n_put (fs' := mO ad (upd (upd (upd x 18 (nI 12)) 19 (nI (rateK 12))) 20 (nI (fl + 1))) tt) C I fX12_180_X12p eX12_put_37 (hN 49 (by decide)) rfl rfl rfl (Nat.le_of_ble_eq_true rfl) rfl ?_
  refine v_aload_n C eX12_put_40 rfl 0 rfl ?_
  refine v_dup C eX12_put_41 rfl ?_
  refine n_get C I fX12_183_X12 eX12_put_42 (hN 49 (by decide)) rfl rfl ?_
  refine v_lconst (v := (1 : Int64)) C eX12_put_45 (by decide) ?_
  refine v_ladd C eX12_put_46 ?_
  refine n_put (fs' := mO ad (upd (upd (upd x 18 (nI 12)) 19 (nI (rateK 12))) 20 (nI (fl + 1))) (tt + ((1 : Int64)))) C I fX12_183_X12p eX12_put_47 (hN 49 (by decide)) rfl rfl rfl (Nat.le_of_ble_eq_true rfl) rfl ?_
  refine v_aload_n C eX12_put_50 rfl 0 rfl ?_
  refine n_get C I fX12_180_X12 eX12_put_51 (hN 49 (by decide)) rfl rfl ?_
  refine v_aload_n C eX12_put_54 rfl 0 rfl ?_
  refine n_get C I fX12_193_X12 eX12_put_55 (hN 49 (by decide)) rfl rfl ?_
  refine v_icmp_ne (tgt := 100) C eX12_put_58 (by decide) (fun c1 => ?_) (fun c1 => ?_)
  · refine v_eq (w' := nW ad N (va_up (va_up (va_up (va_up (va_up (va_up σ 13 (eJ G 25 (sp1 S fl v))) 14 (eJ G 25 O)) 15 (eJ G 5 D)) 16 (eJ G 80 W)) 17 (eB G 128 Bk)) 49 (eO 9 (mO ad (upd (upd (upd x 18 (nI 12)) 19 (nI (rateK 12))) 20 (nI (fl + 1))) (tt + ((1 : Int64))))))) (congrArg (nW ad N) (n_extL [13, 14, 15, 16, 17, 49] ⟨rfl, rfl, rfl, rfl, rfl, rfl, trivial⟩ (fun q h => by simp only [List.mem_cons, List.not_mem_nil, or_false, not_or] at h; simp [va_up, h]))) rfl rfl ?_
    exact n_vret C rfl eX12_put_100 ⟨rfl, by rw [hPut, if_neg (fun q : fl + 1 = rateK 12 => c1 (congrArg nI q))]; rfl⟩
  · refine v_aload_n C eX12_put_61 rfl 0 rfl ?_
    refine n_callV (As := []) (rest := []) C I mX12_198 (c_sponge I hN rfl) (hN 49 (by decide)) rfl rfl (by omega) (by decide) ⟨by decide, by decide⟩ rfl rfl (Nat.le_of_ble_eq_true rfl) eX12_put_62 (fun r σ' hp => ?_)
    obtain ⟨rfl, rfl⟩ := hp
    refine v_if_eq (tgt := 75) C eX12_put_65 (by decide) (fun h => absurd h (show ¬ (if nI 12 ≤ (6 : Int32) then (0 : Int32) else 1) = 0 from by decide +kernel)) (fun _ => ?_)
    refine v_aload_n C eX12_put_68 rfl 0 rfl ?_
    refine n_callV (As := []) (rest := []) C I mX12_206 (c_permute I hN rfl rfl rfl rfl h11 h12) (hN 49 (by decide)) rfl rfl (by omega) (by decide) ⟨by decide, by decide⟩ rfl rfl (Nat.le_of_ble_eq_true rfl) eX12_put_69 (fun r σ' hp => ?_)
    obtain ⟨rfl, rfl⟩ := hp
    refine v_goto (tgt := 95) C eX12_put_72 (by decide) ?_
    refine v_aload_n C eX12_put_95 rfl 0 rfl ?_
    refine v_iconst (v := nI 0) C eX12_put_96 (by decide) ?_
    refine n_put (fs' := mO ad (upd (upd (upd x 18 (nI 12)) 19 (nI (rateK 12))) 20 (nI 0)) (tt + ((1 : Int64)))) C I fX12_180_X12p eX12_put_97 (hN 49 (by decide)) rfl rfl rfl (Nat.le_of_ble_eq_true rfl) rfl ?_
    refine v_eq (w' := nW ad N (va_up (va_up (va_up (va_up (va_up (va_up σ 13 (eJ G 25 ((itN (pmR T Rc) 24 (sp1 S fl v, O, D)).1))) 14 (eJ G 25 ((itN (pmR T Rc) 24 (sp1 S fl v, O, D)).2.1))) 15 (eJ G 5 ((itN (pmR T Rc) 24 (sp1 S fl v, O, D)).2.2))) 16 (eJ G 80 W)) 17 (eB G 128 Bk)) 49 (eO 9 (mO ad (upd (upd (upd x 18 (nI 12)) 19 (nI (rateK 12))) 20 (nI 0)) (tt + ((1 : Int64))))))) (congrArg (nW ad N) (n_extL [13, 14, 15, 16, 17, 49] ⟨rfl, rfl, rfl, rfl, rfl, rfl, trivial⟩ (fun q h => by simp only [List.mem_cons, List.not_mem_nil, or_false, not_or] at h; simp [va_up, h]))) rfl rfl ?_
    have hq : fl + 1 = rateK 12 := (nI_eq (by omega) (by decide)).mp c1
    exact n_vret C rfl eX12_put_100 ⟨rfl, by rw [hPut, if_pos hq]; rfl⟩

end M4
end
section
theorem eX12_put__0 : vD cX12_put_ 0 (.iconst 0) 1 1 := ⟨by decide +kernel, rfl⟩
theorem eX12_put__1 : vD cX12_put_ 1 (.istore 4) 2 3 := ⟨by decide +kernel, rfl⟩
theorem eX12_put__3 : vD cX12_put_ 3 (.iload 4) 2 5 := ⟨by decide +kernel, rfl⟩
theorem eX12_put__5 : vD cX12_put_ 5 (.iload_n 3) 1 6 := ⟨by decide +kernel, rfl⟩
theorem eX12_put__6 : vD cX12_put_ 6 (.if_icmp .ge 19) 3 9 := ⟨by decide +kernel, rfl⟩
theorem eX12_put__9 : vD cX12_put_ 9 (.aload_n 0) 1 10 := ⟨by decide +kernel, rfl⟩
theorem eX12_put__10 : vD cX12_put_ 10 (.aload_n 1) 1 11 := ⟨by decide +kernel, rfl⟩
theorem eX12_put__11 : vD cX12_put_ 11 (.iload_n 2) 1 12 := ⟨by decide +kernel, rfl⟩
theorem eX12_put__12 : vD cX12_put_ 12 (.iload 4) 2 14 := ⟨by decide +kernel, rfl⟩
theorem eX12_put__14 : vD cX12_put_ 14 .iadd 1 15 := ⟨by decide +kernel, rfl⟩
theorem eX12_put__15 : vD cX12_put_ 15 .baload 1 16 := ⟨by decide +kernel, rfl⟩
theorem eX12_put__16 : vD cX12_put_ 16 (.invokevirtual 171) 3 19 := ⟨by decide +kernel, rfl⟩
theorem eX12_put__19 : vD cX12_put_ 19 (.iinc 4 1) 3 22 := ⟨by decide +kernel, rfl⟩
theorem eX12_put__22 : vD cX12_put_ 22 (.goto (-19)) 3 25 := ⟨by decide +kernel, rfl⟩
theorem eX12_put__25 : vD cX12_put_ 25 .return_ 1 26 := ⟨by decide +kernel, rfl⟩
theorem eX12_blockOf_0 : vD cX12_blockOf 0 (.iload_n 0) 1 1 := ⟨by decide +kernel, rfl⟩
theorem eX12_blockOf_1 : vD cX12_blockOf 1 (.iconst 1) 1 2 := ⟨by decide +kernel, rfl⟩
theorem eX12_blockOf_2 : vD cX12_blockOf 2 (.if_icmp .eq 8) 3 5 := ⟨by decide +kernel, rfl⟩
theorem eX12_blockOf_5 : vD cX12_blockOf 5 (.iload_n 0) 1 6 := ⟨by decide +kernel, rfl⟩
theorem eX12_blockOf_6 : vD cX12_blockOf 6 (.iconst 4) 1 7 := ⟨by decide +kernel, rfl⟩
theorem eX12_blockOf_7 : vD cX12_blockOf 7 (.if_icmp .ne 8) 3 10 := ⟨by decide +kernel, rfl⟩
theorem eX12_blockOf_10 : vD cX12_blockOf 10 (.bipush 64) 2 12 := ⟨by decide +kernel, rfl⟩
theorem eX12_blockOf_12 : vD cX12_blockOf 12 (.goto 6) 3 15 := ⟨by decide +kernel, rfl⟩
theorem eX12_blockOf_15 : vD cX12_blockOf 15 (.sipush 128) 3 18 := ⟨by decide +kernel, rfl⟩
theorem eX12_blockOf_18 : vD cX12_blockOf 18 .ireturn 1 19 := ⟨by decide +kernel, rfl⟩
theorem eX12_begin_0 : vD cX12_begin 0 (.aload_n 0) 1 1 := ⟨by decide +kernel, rfl⟩
theorem eX12_begin_1 : vD cX12_begin 1 (.iload_n 1) 1 2 := ⟨by decide +kernel, rfl⟩
theorem eX12_begin_2 : vD cX12_begin 2 (.putfield 177) 3 5 := ⟨by decide +kernel, rfl⟩
theorem eX12_begin_5 : vD cX12_begin 5 (.aload_n 0) 1 6 := ⟨by decide +kernel, rfl⟩
theorem eX12_begin_6 : vD cX12_begin 6 (.iconst 0) 1 7 := ⟨by decide +kernel, rfl⟩
theorem eX12_begin_7 : vD cX12_begin 7 (.putfield 180) 3 10 := ⟨by decide +kernel, rfl⟩
theorem eX12_begin_10 : vD cX12_begin 10 (.aload_n 0) 1 11 := ⟨by decide +kernel, rfl⟩
theorem eX12_begin_11 : vD cX12_begin 11 (.lconst 0) 1 12 := ⟨by decide +kernel, rfl⟩
theorem eX12_begin_12 : vD cX12_begin 12 (.putfield 183) 3 15 := ⟨by decide +kernel, rfl⟩
theorem eX12_begin_15 : vD cX12_begin 15 (.iconst 0) 1 16 := ⟨by decide +kernel, rfl⟩
theorem eX12_begin_16 : vD cX12_begin 16 (.istore_n 2) 1 17 := ⟨by decide +kernel, rfl⟩
theorem eX12_begin_17 : vD cX12_begin 17 (.iload_n 2) 1 18 := ⟨by decide +kernel, rfl⟩
theorem eX12_begin_18 : vD cX12_begin 18 (.bipush 25) 2 20 := ⟨by decide +kernel, rfl⟩
theorem eX12_begin_20 : vD cX12_begin 20 (.if_icmp .ge 16) 3 23 := ⟨by decide +kernel, rfl⟩
theorem eX12_begin_23 : vD cX12_begin 23 (.aload_n 0) 1 24 := ⟨by decide +kernel, rfl⟩
theorem eX12_begin_24 : vD cX12_begin 24 (.getfield 48) 3 27 := ⟨by decide +kernel, rfl⟩
theorem eX12_begin_27 : vD cX12_begin 27 (.iload_n 2) 1 28 := ⟨by decide +kernel, rfl⟩
theorem eX12_begin_28 : vD cX12_begin 28 (.lconst 0) 1 29 := ⟨by decide +kernel, rfl⟩
theorem eX12_begin_29 : vD cX12_begin 29 .lastore 1 30 := ⟨by decide +kernel, rfl⟩
theorem eX12_begin_30 : vD cX12_begin 30 (.iinc 2 1) 3 33 := ⟨by decide +kernel, rfl⟩
theorem eX12_begin_33 : vD cX12_begin 33 (.goto (-16)) 3 36 := ⟨by decide +kernel, rfl⟩
theorem eX12_begin_36 : vD cX12_begin 36 (.aload_n 0) 1 37 := ⟨by decide +kernel, rfl⟩
theorem eX12_begin_37 : vD cX12_begin 37 (.iload_n 1) 1 38 := ⟨by decide +kernel, rfl⟩
theorem eX12_begin_38 : vD cX12_begin 38 (.bipush 11) 2 40 := ⟨by decide +kernel, rfl⟩
theorem eX12_begin_40 : vD cX12_begin 40 (.if_icmp .ne 9) 3 43 := ⟨by decide +kernel, rfl⟩
theorem eX12_begin_43 : vD cX12_begin 43 (.sipush 168) 3 46 := ⟨by decide +kernel, rfl⟩
theorem eX12_begin_46 : vD cX12_begin 46 (.goto 38) 3 49 := ⟨by decide +kernel, rfl⟩
theorem eX12_begin_49 : vD cX12_begin 49 (.iload_n 1) 1 50 := ⟨by decide +kernel, rfl⟩
theorem eX12_begin_50 : vD cX12_begin 50 (.bipush 12) 2 52 := ⟨by decide +kernel, rfl⟩
theorem eX12_begin_52 : vD cX12_begin 52 (.if_icmp .ne 9) 3 55 := ⟨by decide +kernel, rfl⟩
theorem eX12_begin_55 : vD cX12_begin 55 (.sipush 136) 3 58 := ⟨by decide +kernel, rfl⟩
theorem eX12_begin_58 : vD cX12_begin 58 (.goto 26) 3 61 := ⟨by decide +kernel, rfl⟩
theorem eX12_begin_61 : vD cX12_begin 61 (.iload_n 1) 1 62 := ⟨by decide +kernel, rfl⟩
theorem eX12_begin_62 : vD cX12_begin 62 (.bipush 6) 2 64 := ⟨by decide +kernel, rfl⟩
theorem eX12_begin_64 : vD cX12_begin 64 (.if_icmp .le 16) 3 67 := ⟨by decide +kernel, rfl⟩
theorem eX12_begin_67 : vD cX12_begin 67 (.sipush 200) 3 70 := ⟨by decide +kernel, rfl⟩
theorem eX12_begin_70 : vD cX12_begin 70 (.iconst 2) 1 71 := ⟨by decide +kernel, rfl⟩
theorem eX12_begin_71 : vD cX12_begin 71 (.iload_n 1) 1 72 := ⟨by decide +kernel, rfl⟩
theorem eX12_begin_72 : vD cX12_begin 72 (.invokestatic 187) 3 75 := ⟨by decide +kernel, rfl⟩
theorem eX12_begin_75 : vD cX12_begin 75 .imul 1 76 := ⟨by decide +kernel, rfl⟩
theorem eX12_begin_76 : vD cX12_begin 76 .isub 1 77 := ⟨by decide +kernel, rfl⟩
theorem eX12_begin_77 : vD cX12_begin 77 (.goto 7) 3 80 := ⟨by decide +kernel, rfl⟩
theorem eX12_begin_80 : vD cX12_begin 80 (.iload_n 1) 1 81 := ⟨by decide +kernel, rfl⟩
theorem eX12_begin_81 : vD cX12_begin 81 (.invokestatic 190) 3 84 := ⟨by decide +kernel, rfl⟩
theorem eX12_begin_84 : vD cX12_begin 84 (.putfield 193) 3 87 := ⟨by decide +kernel, rfl⟩
theorem eX12_begin_87 : vD cX12_begin 87 (.iconst 0) 1 88 := ⟨by decide +kernel, rfl⟩
theorem eX12_begin_88 : vD cX12_begin 88 (.istore_n 2) 1 89 := ⟨by decide +kernel, rfl⟩
theorem eX12_begin_89 : vD cX12_begin 89 (.iload_n 2) 1 90 := ⟨by decide +kernel, rfl⟩
theorem eX12_begin_90 : vD cX12_begin 90 (.bipush 8) 2 92 := ⟨by decide +kernel, rfl⟩
theorem eX12_begin_92 : vD cX12_begin 92 (.if_icmp .ge 111) 3 95 := ⟨by decide +kernel, rfl⟩
theorem eX12_begin_95 : vD cX12_begin 95 (.iload_n 1) 1 96 := ⟨by decide +kernel, rfl⟩
theorem eX12_begin_96 : vD cX12_begin 96 (.bipush 7) 2 98 := ⟨by decide +kernel, rfl⟩
theorem eX12_begin_98 : vD cX12_begin 98 (.if_icmp .ge 105) 3 101 := ⟨by decide +kernel, rfl⟩
theorem eX12_begin_101 : vD cX12_begin 101 (.aload_n 0) 1 102 := ⟨by decide +kernel, rfl⟩
theorem eX12_begin_102 : vD cX12_begin 102 (.getfield 48) 3 105 := ⟨by decide +kernel, rfl⟩
theorem eX12_begin_105 : vD cX12_begin 105 (.iload_n 2) 1 106 := ⟨by decide +kernel, rfl⟩
theorem eX12_begin_106 : vD cX12_begin 106 (.iload_n 1) 1 107 := ⟨by decide +kernel, rfl⟩
theorem eX12_begin_107 : vD cX12_begin 107 (.iconst 1) 1 108 := ⟨by decide +kernel, rfl⟩
theorem eX12_begin_108 : vD cX12_begin 108 (.if_icmp .ne 15) 3 111 := ⟨by decide +kernel, rfl⟩
theorem eX12_begin_111 : vD cX12_begin 111 (.aload_n 0) 1 112 := ⟨by decide +kernel, rfl⟩
theorem eX12_begin_112 : vD cX12_begin 112 (.getfield 23) 3 115 := ⟨by decide +kernel, rfl⟩
theorem eX12_begin_115 : vD cX12_begin 115 (.iload_n 2) 1 116 := ⟨by decide +kernel, rfl⟩
theorem eX12_begin_116 : vD cX12_begin 116 .laload 1 117 := ⟨by decide +kernel, rfl⟩
theorem eX12_begin_117 : vD cX12_begin 117 (.bipush 32) 2 119 := ⟨by decide +kernel, rfl⟩
theorem eX12_begin_119 : vD cX12_begin 119 .lushr 1 120 := ⟨by decide +kernel, rfl⟩
theorem eX12_begin_120 : vD cX12_begin 120 (.goto 76) 3 123 := ⟨by decide +kernel, rfl⟩
theorem eX12_begin_123 : vD cX12_begin 123 (.iload_n 1) 1 124 := ⟨by decide +kernel, rfl⟩
theorem eX12_begin_124 : vD cX12_begin 124 (.iconst 4) 1 125 := ⟨by decide +kernel, rfl⟩
theorem eX12_begin_125 : vD cX12_begin 125 (.if_icmp .ne 19) 3 128 := ⟨by decide +kernel, rfl⟩
theorem eX12_begin_128 : vD cX12_begin 128 (.aload_n 0) 1 129 := ⟨by decide +kernel, rfl⟩
theorem eX12_begin_129 : vD cX12_begin 129 (.getfield 23) 3 132 := ⟨by decide +kernel, rfl⟩
theorem eX12_begin_132 : vD cX12_begin 132 (.bipush 8) 2 134 := ⟨by decide +kernel, rfl⟩
theorem eX12_begin_134 : vD cX12_begin 134 (.iload_n 2) 1 135 := ⟨by decide +kernel, rfl⟩
theorem eX12_begin_135 : vD cX12_begin 135 .iadd 1 136 := ⟨by decide +kernel, rfl⟩
theorem eX12_begin_136 : vD cX12_begin 136 .laload 1 137 := ⟨by decide +kernel, rfl⟩
theorem eX12_begin_137 : vD cX12_begin 137 (.ldc2_w 196) 3 140 := ⟨by decide +kernel, rfl⟩
theorem eX12_begin_140 : vD cX12_begin 140 .land 1 141 := ⟨by decide +kernel, rfl⟩
theorem eX12_begin_141 : vD cX12_begin 141 (.goto 55) 3 144 := ⟨by decide +kernel, rfl⟩
theorem eX12_begin_144 : vD cX12_begin 144 (.iload_n 1) 1 145 := ⟨by decide +kernel, rfl⟩
theorem eX12_begin_145 : vD cX12_begin 145 (.iconst 2) 1 146 := ⟨by decide +kernel, rfl⟩
theorem eX12_begin_146 : vD cX12_begin 146 (.if_icmp .ne 15) 3 149 := ⟨by decide +kernel, rfl⟩
theorem eX12_begin_149 : vD cX12_begin 149 (.aload_n 0) 1 150 := ⟨by decide +kernel, rfl⟩
theorem eX12_begin_150 : vD cX12_begin 150 (.getfield 23) 3 153 := ⟨by decide +kernel, rfl⟩
theorem eX12_begin_153 : vD cX12_begin 153 (.bipush 8) 2 155 := ⟨by decide +kernel, rfl⟩
theorem eX12_begin_155 : vD cX12_begin 155 (.iload_n 2) 1 156 := ⟨by decide +kernel, rfl⟩
theorem eX12_begin_156 : vD cX12_begin 156 .iadd 1 157 := ⟨by decide +kernel, rfl⟩
theorem eX12_begin_157 : vD cX12_begin 157 .laload 1 158 := ⟨by decide +kernel, rfl⟩
theorem eX12_begin_158 : vD cX12_begin 158 (.goto 38) 3 161 := ⟨by decide +kernel, rfl⟩
theorem eX12_begin_161 : vD cX12_begin 161 (.iload_n 1) 1 162 := ⟨by decide +kernel, rfl⟩
theorem eX12_begin_162 : vD cX12_begin 162 (.iconst 5) 1 163 := ⟨by decide +kernel, rfl⟩
theorem eX12_begin_163 : vD cX12_begin 163 (.if_icmp .ne 12) 3 166 := ⟨by decide +kernel, rfl⟩
theorem eX12_begin_166 : vD cX12_begin 166 (.aload_n 0) 1 167 := ⟨by decide +kernel, rfl⟩
theorem eX12_begin_167 : vD cX12_begin 167 (.getfield 30) 3 170 := ⟨by decide +kernel, rfl⟩
theorem eX12_begin_170 : vD cX12_begin 170 (.iload_n 2) 1 171 := ⟨by decide +kernel, rfl⟩
theorem eX12_begin_171 : vD cX12_begin 171 .laload 1 172 := ⟨by decide +kernel, rfl⟩
theorem eX12_begin_172 : vD cX12_begin 172 (.goto 24) 3 175 := ⟨by decide +kernel, rfl⟩
theorem eX12_begin_175 : vD cX12_begin 175 (.iload_n 1) 1 176 := ⟨by decide +kernel, rfl⟩
theorem eX12_begin_176 : vD cX12_begin 176 (.bipush 6) 2 178 := ⟨by decide +kernel, rfl⟩
theorem eX12_begin_178 : vD cX12_begin 178 (.if_icmp .ne 12) 3 181 := ⟨by decide +kernel, rfl⟩
theorem eX12_begin_181 : vD cX12_begin 181 (.aload_n 0) 1 182 := ⟨by decide +kernel, rfl⟩
theorem eX12_begin_182 : vD cX12_begin 182 (.getfield 33) 3 185 := ⟨by decide +kernel, rfl⟩
theorem eX12_begin_185 : vD cX12_begin 185 (.iload_n 2) 1 186 := ⟨by decide +kernel, rfl⟩
theorem eX12_begin_186 : vD cX12_begin 186 .laload 1 187 := ⟨by decide +kernel, rfl⟩
theorem eX12_begin_187 : vD cX12_begin 187 (.goto 9) 3 190 := ⟨by decide +kernel, rfl⟩
theorem eX12_begin_190 : vD cX12_begin 190 (.aload_n 0) 1 191 := ⟨by decide +kernel, rfl⟩
theorem eX12_begin_191 : vD cX12_begin 191 (.getfield 23) 3 194 := ⟨by decide +kernel, rfl⟩
theorem eX12_begin_194 : vD cX12_begin 194 (.iload_n 2) 1 195 := ⟨by decide +kernel, rfl⟩
theorem eX12_begin_195 : vD cX12_begin 195 .laload 1 196 := ⟨by decide +kernel, rfl⟩
theorem eX12_begin_196 : vD cX12_begin 196 .lastore 1 197 := ⟨by decide +kernel, rfl⟩
theorem eX12_begin_197 : vD cX12_begin 197 (.iinc 2 1) 3 200 := ⟨by decide +kernel, rfl⟩
theorem eX12_begin_200 : vD cX12_begin 200 (.goto (-111)) 3 203 := ⟨by decide +kernel, rfl⟩
theorem eX12_begin_203 : vD cX12_begin 203 .return_ 1 204 := ⟨by decide +kernel, rfl⟩

def hPutN (T : Nat → Int32) (Rc K : Nat → Int64) (k : Nat) (f : Nat → Int32) (a n : Nat) (h : hT) : hT := itN (fun i h => hPut T Rc K k (f (a + i)) h) n h
theorem rateK_pos {k : Nat} (hk : k = 1 ∨ k = 3 ∨ k = 12) : 1 < rateK k := by rcases hk with rfl | rfl | rfl <;> decide
theorem hPut_lt {T : Nat → Int32} {Rc K : Nat → Int64} {k : Nat} (hk : k = 1 ∨ k = 3 ∨ k = 12) (v : Int32) (h : hT) (hf : h.2.2.2.2.2.1 < rateK k) : (hPut T Rc K k v h).2.2.2.2.2.1 < rateK k := by
  obtain ⟨S, O, D, W, Bk, f, t⟩ := h
  have h1 : (hPut1 k v (S, O, D, W, Bk, f, t)).2.2.2.2.2.1 = f + 1 := by unfold hPut1; by_cases q : k = 12 <;> simp [q]
  unfold hPut
  by_cases q : f + 1 = rateK k
  · rw [if_pos q]
    generalize hPut1 k v (S, O, D, W, Bk, f, t) = g
    obtain ⟨S, O, D, W, Bk, f, t⟩ := g
    have := rateK_pos hk
    unfold hBlk
    by_cases q1 : k = 12
    · simp [q1, rateK]
    · by_cases q2 : k = 1
      · simp [q2, rateK]
      · simp [q1, q2]; omega
  · rw [if_neg q, h1]
    have : f < rateK k := hf
    omega
theorem hPutN_lt {T : Nat → Int32} {Rc K : Nat → Int64} {k : Nat} (hk : k = 1 ∨ k = 3 ∨ k = 12) (f : Nat → Int32) (a : Nat) (h : hT) (hf : h.2.2.2.2.2.1 < rateK k) : ∀ n, (hPutN T Rc K k f a n h).2.2.2.2.2.1 < rateK k
  | 0 => hf
  | n + 1 => hPut_lt hk _ _ (hPutN_lt hk f a h hf n)
theorem hσ_ne {G : vG} {ad : Nat → Nat} {σ : nS} {x : Nat → Int32} {k : Nat} {h : hT} {q : Nat} (hq : q ∉ [13, 14, 15, 16, 17, 49]) : hσ G ad σ x k h q = σ q := by
  simp only [List.mem_cons, List.not_mem_nil, or_false, not_or] at hq
  simp [hσ, va_up, hq]
section M5
variable {G : vG} {B : Nat} {l : Launch} {ad : Nat → Nat} {N : Nat}
theorem c_put (I : nI1 ad N) (hN : ∀ k, k < 74 → k < N) {σ : nS} {x T : Nat → Int32} {Rc K : Nat → Int64} (h11 : σ 11 = eI G 25 T) (h12 : σ 12 = eJ G 24 Rc) (h6 : σ 6 = eJ G 80 K) {k : Nat} (hk : k = 1 ∨ k = 3 ∨ k = 12) (h : hT) (hf : h.2.2.2.2.2.1 < rateK k) (v : Int32) : nOk G B l ad N yX12_put cX12_put 2 none 2 0 0 [.ref (ad 49), .int v] (hσ G ad σ x k h) (fun r σ' => r = none ∧ σ' = hσ G ad σ x k (hPut T Rc K k v h)) := by
  obtain ⟨S, O, D, W, Bk, fl, tt⟩ := h
  rcases hk with rfl | rfl | rfl
  · exact c_put1 I hN h11 h12 h6 S O D W Bk fl tt v hf
  · exact c_put3 I hN h11 h12 h6 S O D W Bk fl tt v hf
  · exact c_put12 I hN h11 h12 h6 S O D W Bk fl tt v hf
set_option maxRecDepth 100000 in
set_option maxHeartbeats 4000000 in
theorem c_putA (I : nI1 ad N) (hN : ∀ k, k < 74 → k < N) {σ : nS} {x T : Nat → Int32} {Rc K : Nat → Int64} (h11 : σ 11 = eI G 25 T) (h12 : σ 12 = eJ G 24 Rc) (h6 : σ 6 = eJ G 80 K) {k : Nat} (hk : k = 1 ∨ k = 3 ∨ k = 12) (h : hT) (hf : h.2.2.2.2.2.1 < rateK k) {kb nb : Nat} {f : Nat → Int32} (hkN : kb < N) (hkb : kb ∉ [13, 14, 15, 16, 17, 49]) (hb : σ kb = eB G nb f) (a n : Nat) (han : a + n ≤ nb) (hnb : nb < 2 ^ 31) : nOk G B l ad N yX12_put_ cX12_put_ 5 none 3 0 0 [.ref (ad 49), .ref (ad kb), .int (nI a), .int (nI n)] (hσ G ad σ x k h) (fun r σ' => r = none ∧ σ' = hσ G ad σ x k (hPutN T Rc K k f a n h)) := by
  refine vOk.of (by decide +kernel) (Nat.le_of_ble_eq_true rfl) ?_
  intro p e s m args below meth c C
  refine v_eq (lv' := [(0, .ref (ad 49)), (1, .ref (ad kb)), (2, .int (nI a)), (3, .int (nI n))]) rfl rfl rfl ?_
  refine v_iconst (v := (0 : Int32)) C eX12_put__0 (by decide) ?_
  refine v_istore (lv' := [(0, .ref (ad 49)), (1, .ref (ad kb)), (2, .int (nI a)), (3, .int (nI n)), (4, .int ((0 : Int32)))]) C eX12_put__1 (by decide) [1, 2, 3, 4, 0] rfl ?_
  refine v_forV (fun i => hσ G ad σ x k (hPutN T Rc K k f a i h)) (fun i => [(0, .ref (ad 49)), (1, .ref (ad kb)), (2, .int (nI a)), (3, .int (nI n)), (4, .int (nI i))]) n ?_ ?_
  · refine v_iload C eX12_put__3 4 rfl ?_
    refine v_iload_n C eX12_put__5 rfl 3 rfl ?_
    refine v_icmp_ge (tgt := 25) C eX12_put__6 (by decide) (fun _ => ?_) (fun h => absurd (ix_le (a := n) (b := n) (rfl : nI n = nI n) (rfl : nI n = nI n) (by omega) (by omega) (by omega)) h)
    exact n_vret C rfl eX12_put__25 ⟨rfl, rfl⟩
  · intro i hi ih
    refine v_iload C eX12_put__3 4 rfl ?_
    refine v_iload_n C eX12_put__5 rfl 3 rfl ?_
    refine v_icmp_ge (tgt := 25) C eX12_put__6 (by decide) (fun h => absurd h (ix_nle (a := n) (b := i) (rfl : nI n = nI n) (rfl : nI i = nI i) (by omega) (by omega) (by omega))) (fun _ => ?_)
    refine v_aload_n C eX12_put__9 rfl 0 rfl ?_
    refine v_aload_n C eX12_put__10 rfl 1 rfl ?_
    refine v_iload_n C eX12_put__11 rfl 2 rfl ?_
    refine v_iload C eX12_put__12 4 rfl ?_
    refine v_iadd C eX12_put__14 ?_
    refine n_bald C I eX12_put__15 hkN ((hσ_ne hkb).trans hb) (a + i) (ix_add (a := a) (b := i) (rfl : nI a = nI a) (rfl : nI i = nI i)) (by omega) (by omega) ?_
    refine n_callV (As := [.int (f (a + i))]) (rest := []) C I mX12_171 (c_put I hN h11 h12 h6 hk (hPutN T Rc K k f a i h) (hPutN_lt hk f a h hf i) (f (a + i))) (hN 49 (by decide)) rfl rfl (by decide) (by decide) ⟨by decide, by decide⟩ rfl rfl (Nat.le_of_ble_eq_true rfl) eX12_put__16 (fun r σ' hp => ?_)
    obtain ⟨rfl, rfl⟩ := hp
    refine v_iinc (lv' := [(0, .ref (ad 49)), (1, .ref (ad kb)), (2, .int (nI a)), (3, .int (nI n)), (4, .int (nI (i + 1)))]) C eX12_put__19 4 rfl (ix_inc _) (by decide) [1, 2, 3, 4, 0] rfl ?_
    refine v_goto (tgt := 3) C eX12_put__22 (by decide) ?_
    exact ih

set_option maxRecDepth 100000 in
set_option maxHeartbeats 4000000 in
theorem c_blockOf1 {σ : nS}  : nOk G B l ad N yX12_blockOf cX12_blockOf 1 (some .int) 0 0 0 [.int (nI 1)] σ (fun r σ' => r = some (.int (64 : Int32)) ∧ σ' = σ) := by
  refine vOk.of (by decide +kernel) (Nat.le_of_ble_eq_true rfl) ?_
  intro p e s m args below meth c C
  refine v_eq (lv' := [(0, .int (nI 1))]) rfl rfl rfl ?_
  refine v_iload_n C eX12_blockOf_0 rfl 0 rfl ?_
  refine v_iconst (v := (1 : Int32)) C eX12_blockOf_1 (by decide) ?_
  refine v_icmp_eq (tgt := 10) C eX12_blockOf_2 (by decide) (fun _ => ?_) (fun h => absurd (ix_eq (a := 1) (b := 1) (rfl : nI 1 = nI 1) (rfl : (1 : Int32) = nI 1) (by omega) (by omega) (by omega)) h)
  refine v_bipush (v := (64 : Int32)) C eX12_blockOf_10 (by decide) ?_
  refine v_goto (tgt := 18) C eX12_blockOf_12 (by decide) ?_
  exact n_iret C rfl eX12_blockOf_18 ⟨rfl, rfl⟩

set_option maxRecDepth 100000 in
set_option maxHeartbeats 4000000 in
theorem c_blockOf3 {σ : nS}  : nOk G B l ad N yX12_blockOf cX12_blockOf 1 (some .int) 0 0 0 [.int (nI 3)] σ (fun r σ' => r = some (.int (128 : Int32)) ∧ σ' = σ) := by
  refine vOk.of (by decide +kernel) (Nat.le_of_ble_eq_true rfl) ?_
  intro p e s m args below meth c C
  refine v_eq (lv' := [(0, .int (nI 3))]) rfl rfl rfl ?_
  refine v_iload_n C eX12_blockOf_0 rfl 0 rfl ?_
  refine v_iconst (v := (1 : Int32)) C eX12_blockOf_1 (by decide) ?_
  refine v_icmp_eq (tgt := 10) C eX12_blockOf_2 (by decide) (fun h => absurd h (ix_ne (a := 3) (b := 1) (rfl : nI 3 = nI 3) (rfl : (1 : Int32) = nI 1) (by omega) (by omega) (by omega))) (fun _ => ?_)
  refine v_iload_n C eX12_blockOf_5 rfl 0 rfl ?_
  refine v_iconst (v := (4 : Int32)) C eX12_blockOf_6 (by decide) ?_
  refine v_icmp_ne (tgt := 15) C eX12_blockOf_7 (by decide) (fun _ => ?_) (fun h => absurd h (ix_ne (a := 3) (b := 4) (rfl : nI 3 = nI 3) (rfl : (4 : Int32) = nI 4) (by omega) (by omega) (by omega)))
  refine v_sipush (v := (128 : Int32)) C eX12_blockOf_15 (by decide) ?_
  exact n_iret C rfl eX12_blockOf_18 ⟨rfl, rfl⟩

def zS (n : Nat) (S : Nat → Int64) : Nat → Int64 := itN (fun i S => vp_updL S i 0) n S
def bgS (k : Nat) (Rt : Nat → Int64) (n : Nat) (S : Nat → Int64) : Nat → Int64 := itN (fun i S => vp_updL S i (if k = 1 then us64 (Rt i) 32 else Rt i)) n S
/-- a hash begun -/
def hBeg (k : Nat) (Rt : Nat → Int64) (h : hT) : hT := match h with
  | (S, O, D, W, Bk, _, _) => (if k = 12 then zS 25 S else bgS k Rt 8 (zS 25 S), O, D, W, Bk, 0, 0)
def gσ (G : vG) (ad : Nat → Nat) (σ : nS) (x : Nat → Int32) (h : hT) : nS := va_up (va_up (va_up (va_up (va_up (va_up σ 13 (eJ G 25 h.1)) 14 (eJ G 25 h.2.1)) 15 (eJ G 5 h.2.2.1)) 16 (eJ G 80 h.2.2.2.1)) 17 (eB G 128 h.2.2.2.2.1)) 49 (eO 9 (mO ad x h.2.2.2.2.2.2))
theorem hσ_g {G : vG} {ad : Nat → Nat} {σ : nS} {x : Nat → Int32} {k : Nat} {h : hT} : hσ G ad σ x k h = gσ G ad σ (upd (upd (upd x 18 (nI k)) 19 (nI (rateK k))) 20 (nI h.2.2.2.2.2.1)) h := rfl
set_option maxRecDepth 100000 in
set_option maxHeartbeats 4000000 in
theorem c_begin1 (I : nI1 ad N) (hN : ∀ k, k < 74 → k < N) {σ : nS} {x T : Nat → Int32} {Rc K : Nat → Int64} (h11 : σ 11 = eI G 25 T) (h12 : σ 12 = eJ G 24 Rc) (h6 : σ 6 = eJ G 80 K) {Rt : Nat → Int64} (h5 : σ 5 = eJ G 16 Rt) (S O D W : Nat → Int64) (Bk : Nat → Int32) (fl : Nat) (tt : Int64) : nOk G B l ad N yX12_begin cX12_begin 3 none 1 0 0 [.ref (ad 49), .int (nI 1)] (gσ G ad σ x (S, O, D, W, Bk, fl, tt)) (fun r σ' => r = none ∧ σ' = hσ G ad σ x 1 (hBeg 1 Rt (S, O, D, W, Bk, fl, tt))) := by
  refine vOk.of (by decide +kernel) (Nat.le_of_ble_eq_true rfl) ?_
  intro p e s m args below meth c C
  refine v_eq (lv' := [(0, .ref (ad 49)), (1, .int (nI 1))]) rfl rfl rfl ?_
  refine v_eq (w' := nW ad N (va_up (va_up (va_up (va_up (va_up (va_up σ 13 (eJ G 25 S)) 14 (eJ G 25 O)) 15 (eJ G 5 D)) 16 (eJ G 80 W)) 17 (eB G 128 Bk)) 49 (eO 9 (mO ad x tt)))) rfl rfl rfl ?_
  refine v_aload_n C eX12_begin_0 rfl 0 rfl ?_
  refine v_iload_n C eX12_begin_1 rfl 1 rfl ?_
  refine n_put (fs' := mO ad (upd x 18 (nI 1)) tt) C I fX12_177_X12p eX12_begin_2 (hN 49 (by decide)) rfl rfl rfl (Nat.le_of_ble_eq_true rfl) rfl ?_
  refine v_aload_n C eX12_begin_5 rfl 0 rfl ?_
  refine v_iconst (v := nI 0) C eX12_begin_6 (by decide) ?_
  refine n_put (fs' := mO ad (upd (upd x 18 (nI 1)) 20 (nI 0)) tt) C I fX12_180_X12p eX12_begin_7 (hN 49 (by decide)) rfl rfl rfl (Nat.le_of_ble_eq_true rfl) rfl ?_
  refine v_aload_n C eX12_begin_10 rfl 0 rfl ?_
  refine v_lconst (v := (0 : Int64)) C eX12_begin_11 (by decide) ?_
  refine n_put (fs' := mO ad (upd (upd x 18 (nI 1)) 20 (nI 0)) ((0 : Int64))) C I fX12_183_X12p eX12_begin_12 (hN 49 (by decide)) rfl rfl rfl (Nat.le_of_ble_eq_true rfl) rfl ?_
  refine v_iconst (v := (0 : Int32)) C eX12_begin_15 (by decide) ?_
  refine v_istore_n (lv' := [(0, .ref (ad 49)), (1, .int (nI 1)), (2, .int ((0 : Int32)))]) C eX12_begin_16 rfl (by decide) [1, 2, 0] rfl ?_
  refine v_eq (w' := nW ad N (va_up (va_up (va_up (va_up (va_up (va_up σ 13 (eJ G 25 S)) 14 (eJ G 25 O)) 15 (eJ G 5 D)) 16 (eJ G 80 W)) 17 (eB G 128 Bk)) 49 (eO 9 (mO ad (upd (upd x 18 (nI 1)) 20 (nI 0)) ((0 : Int64)))))) (congrArg (nW ad N) (n_extL [13, 14, 15, 16, 17, 49] ⟨rfl, rfl, rfl, rfl, rfl, rfl, trivial⟩ (fun q h => by simp only [List.mem_cons, List.not_mem_nil, or_false, not_or] at h; simp [va_up, h]))) rfl rfl ?_
  refine v_forV (fun i => va_up (va_up (va_up (va_up (va_up (va_up σ 13 (eJ G 25 (zS i S))) 14 (eJ G 25 O)) 15 (eJ G 5 D)) 16 (eJ G 80 W)) 17 (eB G 128 Bk)) 49 (eO 9 (mO ad (upd (upd x 18 (nI 1)) 20 (nI 0)) ((0 : Int64))))) (fun i => [(0, .ref (ad 49)), (1, .int (nI 1)), (2, .int (nI i))]) 25 ?_ ?_
  · refine v_iload_n C eX12_begin_17 rfl 2 rfl ?_
    refine v_bipush (v := (25 : Int32)) C eX12_begin_18 (by decide) ?_
    refine v_icmp_ge (tgt := 36) C eX12_begin_20 (by decide) (fun _ => ?_) (fun h => absurd (ix_le (a := 25) (b := 25) (rfl : (25 : Int32) = nI 25) (rfl : nI 25 = nI 25) (by omega) (by omega) (by omega)) h)
    refine v_aload_n C eX12_begin_36 rfl 0 rfl ?_
    refine v_iload_n C eX12_begin_37 rfl 1 rfl ?_
    refine v_bipush (v := (11 : Int32)) C eX12_begin_38 (by decide) ?_
    refine v_icmp_ne (tgt := 49) C eX12_begin_40 (by decide) (fun _ => ?_) (fun h => absurd h (ix_ne (a := 1) (b := 11) (rfl : nI 1 = nI 1) (rfl : (11 : Int32) = nI 11) (by omega) (by omega) (by omega)))
    refine v_iload_n C eX12_begin_49 rfl 1 rfl ?_
    refine v_bipush (v := (12 : Int32)) C eX12_begin_50 (by decide) ?_
    refine v_icmp_ne (tgt := 61) C eX12_begin_52 (by decide) (fun _ => ?_) (fun h => absurd h (ix_ne (a := 1) (b := 12) (rfl : nI 1 = nI 1) (rfl : (12 : Int32) = nI 12) (by omega) (by omega) (by omega)))
    refine v_iload_n C eX12_begin_61 rfl 1 rfl ?_
    refine v_bipush (v := (6 : Int32)) C eX12_begin_62 (by decide) ?_
    refine v_icmp_le (tgt := 80) C eX12_begin_64 (by decide) (fun _ => ?_) (fun h => absurd (ix_le (a := 1) (b := 6) (rfl : nI 1 = nI 1) (rfl : (6 : Int32) = nI 6) (by omega) (by omega) (by omega)) h)
    refine v_iload_n C eX12_begin_80 rfl 1 rfl ?_
    refine n_callS (av := [.int (nI 1)]) (rest := [.ref (ad 49)]) C mX12_190 (c_blockOf1) rfl (by decide) (by decide) ⟨by decide, by decide⟩ rfl rfl (Nat.le_of_ble_eq_true rfl) eX12_begin_81 (fun r σ' hp => ?_)
    obtain ⟨rfl, rfl⟩ := hp
    refine n_put (fs' := mO ad (upd (upd (upd x 18 (nI 1)) 19 (nI (rateK 1))) 20 (nI 0)) ((0 : Int64))) C I fX12_193_X12p eX12_begin_84 (hN 49 (by decide)) rfl rfl rfl (Nat.le_of_ble_eq_true rfl) rfl ?_
    refine v_iconst (v := (0 : Int32)) C eX12_begin_87 (by decide) ?_
    refine v_istore_n (lv' := [(0, .ref (ad 49)), (1, .int (nI 1)), (2, .int ((0 : Int32)))]) C eX12_begin_88 rfl (by decide) [1, 2, 0] rfl ?_
    refine v_eq (w' := nW ad N (va_up (va_up (va_up (va_up (va_up (va_up σ 13 (eJ G 25 (zS 25 S))) 14 (eJ G 25 O)) 15 (eJ G 5 D)) 16 (eJ G 80 W)) 17 (eB G 128 Bk)) 49 (eO 9 (mO ad (upd (upd (upd x 18 (nI 1)) 19 (nI (rateK 1))) 20 (nI 0)) ((0 : Int64)))))) (congrArg (nW ad N) (n_extL [13, 14, 15, 16, 17, 49] ⟨rfl, rfl, rfl, rfl, rfl, rfl, trivial⟩ (fun q h => by simp only [List.mem_cons, List.not_mem_nil, or_false, not_or] at h; simp [va_up, h]))) rfl rfl ?_
    refine v_forV (fun j => va_up (va_up (va_up (va_up (va_up (va_up σ 13 (eJ G 25 (bgS 1 Rt j (zS 25 S)))) 14 (eJ G 25 O)) 15 (eJ G 5 D)) 16 (eJ G 80 W)) 17 (eB G 128 Bk)) 49 (eO 9 (mO ad (upd (upd (upd x 18 (nI 1)) 19 (nI (rateK 1))) 20 (nI 0)) ((0 : Int64))))) (fun j => [(0, .ref (ad 49)), (1, .int (nI 1)), (2, .int (nI j))]) 8 ?_ ?_
    · refine v_iload_n C eX12_begin_89 rfl 2 rfl ?_
      refine v_bipush (v := (8 : Int32)) C eX12_begin_90 (by decide) ?_
      refine v_icmp_ge (tgt := 203) C eX12_begin_92 (by decide) (fun _ => ?_) (fun h => absurd (ix_le (a := 8) (b := 8) (rfl : (8 : Int32) = nI 8) (rfl : nI 8 = nI 8) (by omega) (by omega) (by omega)) h)
      exact n_vret C rfl eX12_begin_203 ⟨rfl, rfl⟩
    · intro j hj ihj
      refine v_iload_n C eX12_begin_89 rfl 2 rfl ?_
      refine v_bipush (v := (8 : Int32)) C eX12_begin_90 (by decide) ?_
      refine v_icmp_ge (tgt := 203) C eX12_begin_92 (by decide) (fun h => absurd h (ix_nle (a := 8) (b := j) (rfl : (8 : Int32) = nI 8) (rfl : nI j = nI j) (by omega) (by omega) (by omega))) (fun _ => ?_)
      refine v_iload_n C eX12_begin_95 rfl 1 rfl ?_
      refine v_bipush (v := (7 : Int32)) C eX12_begin_96 (by decide) ?_
      refine v_icmp_ge (tgt := 203) C eX12_begin_98 (by decide) (fun h => absurd h (ix_nle (a := 7) (b := 1) (rfl : (7 : Int32) = nI 7) (rfl : nI 1 = nI 1) (by omega) (by omega) (by omega))) (fun _ => ?_)
      refine v_aload_n C eX12_begin_101 rfl 0 rfl ?_
      refine n_get C I fX12_48_X12 eX12_begin_102 (hN 49 (by decide)) rfl rfl ?_
      refine v_iload_n C eX12_begin_105 rfl 2 rfl ?_
      refine v_iload_n C eX12_begin_106 rfl 1 rfl ?_
      refine v_iconst (v := (1 : Int32)) C eX12_begin_107 (by decide) ?_
      refine v_icmp_ne (tgt := 123) C eX12_begin_108 (by decide) (fun h => absurd (ix_eq (a := 1) (b := 1) (rfl : nI 1 = nI 1) (rfl : (1 : Int32) = nI 1) (by omega) (by omega) (by omega)) h) (fun _ => ?_)
      refine v_aload_n C eX12_begin_111 rfl 0 rfl ?_
      refine n_get C I fX12_23_X12 eX12_begin_112 (hN 49 (by decide)) rfl rfl ?_
      refine v_iload_n C eX12_begin_115 rfl 2 rfl ?_
      refine n_lald C I eX12_begin_116 (hN 5 (by decide)) h5 j (rfl : nI j = nI j) (by omega) (by decide) ?_
      refine v_bipush (v := (32 : Int32)) C eX12_begin_117 (by decide) ?_
      refine v_lushr C eX12_begin_119 ?_
      refine v_goto (tgt := 196) C eX12_begin_120 (by decide) ?_
      refine n_last C I eX12_begin_196 (hN 13 (by decide)) rfl j (rfl : nI j = nI j) (by omega) (by decide) ?_
      refine v_iinc (lv' := [(0, .ref (ad 49)), (1, .int (nI 1)), (2, .int (nI (j + 1)))]) C eX12_begin_197 2 rfl (ix_inc _) (by decide) [1, 2, 0] rfl ?_
      refine v_goto (tgt := 89) C eX12_begin_200 (by decide) ?_
      refine v_eq (w' := nW ad N (va_up (va_up (va_up (va_up (va_up (va_up σ 13 (eJ G 25 (vp_updL (bgS 1 Rt j (zS 25 S)) j (((Rt j).toUInt64 >>> (((32 : Int32)).toInt64.toUInt64 &&& Int64.toUInt64 63)).toInt64)))) 14 (eJ G 25 O)) 15 (eJ G 5 D)) 16 (eJ G 80 W)) 17 (eB G 128 Bk)) 49 (eO 9 (mO ad (upd (upd (upd x 18 (nI 1)) 19 (nI (rateK 1))) 20 (nI 0)) ((0 : Int64)))))) (congrArg (nW ad N) (n_extL [13, 14, 15, 16, 17, 49] ⟨rfl, rfl, rfl, rfl, rfl, rfl, trivial⟩ (fun q h => by simp only [List.mem_cons, List.not_mem_nil, or_false, not_or] at h; simp [va_up, h]))) rfl rfl ?_
      exact ihj
  · intro i hi ih
    refine v_iload_n C eX12_begin_17 rfl 2 rfl ?_
    refine v_bipush (v := (25 : Int32)) C eX12_begin_18 (by decide) ?_
    refine v_icmp_ge (tgt := 36) C eX12_begin_20 (by decide) (fun h => absurd h (ix_nle (a := 25) (b := i) (rfl : (25 : Int32) = nI 25) (rfl : nI i = nI i) (by omega) (by omega) (by omega))) (fun _ => ?_)
    refine v_aload_n C eX12_begin_23 rfl 0 rfl ?_
    refine n_get C I fX12_48_X12 eX12_begin_24 (hN 49 (by decide)) rfl rfl ?_
    refine v_iload_n C eX12_begin_27 rfl 2 rfl ?_
    refine v_lconst (v := (0 : Int64)) C eX12_begin_28 (by decide) ?_
    refine n_last C I eX12_begin_29 (hN 13 (by decide)) rfl i (rfl : nI i = nI i) (by omega) (by decide) ?_
    refine v_iinc (lv' := [(0, .ref (ad 49)), (1, .int (nI 1)), (2, .int (nI (i + 1)))]) C eX12_begin_30 2 rfl (ix_inc _) (by decide) [1, 2, 0] rfl ?_
    refine v_goto (tgt := 17) C eX12_begin_33 (by decide) ?_
    refine v_eq (w' := nW ad N (va_up (va_up (va_up (va_up (va_up (va_up σ 13 (eJ G 25 (vp_updL (zS i S) i ((0 : Int64))))) 14 (eJ G 25 O)) 15 (eJ G 5 D)) 16 (eJ G 80 W)) 17 (eB G 128 Bk)) 49 (eO 9 (mO ad (upd (upd x 18 (nI 1)) 20 (nI 0)) ((0 : Int64)))))) (congrArg (nW ad N) (n_extL [13, 14, 15, 16, 17, 49] ⟨rfl, rfl, rfl, rfl, rfl, rfl, trivial⟩ (fun q h => by simp only [List.mem_cons, List.not_mem_nil, or_false, not_or] at h; simp [va_up, h]))) rfl rfl ?_
    exact ih

set_option maxRecDepth 100000 in
set_option maxHeartbeats 4000000 in
theorem c_begin3 (I : nI1 ad N) (hN : ∀ k, k < 74 → k < N) {σ : nS} {x T : Nat → Int32} {Rc K : Nat → Int64} (h11 : σ 11 = eI G 25 T) (h12 : σ 12 = eJ G 24 Rc) (h6 : σ 6 = eJ G 80 K) {Rt : Nat → Int64} (h5 : σ 5 = eJ G 16 Rt) (S O D W : Nat → Int64) (Bk : Nat → Int32) (fl : Nat) (tt : Int64) : nOk G B l ad N yX12_begin cX12_begin 3 none 1 0 0 [.ref (ad 49), .int (nI 3)] (gσ G ad σ x (S, O, D, W, Bk, fl, tt)) (fun r σ' => r = none ∧ σ' = hσ G ad σ x 3 (hBeg 3 Rt (S, O, D, W, Bk, fl, tt))) := by
  refine vOk.of (by decide +kernel) (Nat.le_of_ble_eq_true rfl) ?_
  intro p e s m args below meth c C
  refine v_eq (lv' := [(0, .ref (ad 49)), (1, .int (nI 3))]) rfl rfl rfl ?_
  refine v_eq (w' := nW ad N (va_up (va_up (va_up (va_up (va_up (va_up σ 13 (eJ G 25 S)) 14 (eJ G 25 O)) 15 (eJ G 5 D)) 16 (eJ G 80 W)) 17 (eB G 128 Bk)) 49 (eO 9 (mO ad x tt)))) rfl rfl rfl ?_
  refine v_aload_n C eX12_begin_0 rfl 0 rfl ?_
  refine v_iload_n C eX12_begin_1 rfl 1 rfl ?_
  refine n_put (fs' := mO ad (upd x 18 (nI 3)) tt) C I fX12_177_X12p eX12_begin_2 (hN 49 (by decide)) rfl rfl rfl (Nat.le_of_ble_eq_true rfl) rfl ?_
  refine v_aload_n C eX12_begin_5 rfl 0 rfl ?_
  refine v_iconst (v := nI 0) C eX12_begin_6 (by decide) ?_
  refine n_put (fs' := mO ad (upd (upd x 18 (nI 3)) 20 (nI 0)) tt) C I fX12_180_X12p eX12_begin_7 (hN 49 (by decide)) rfl rfl rfl (Nat.le_of_ble_eq_true rfl) rfl ?_
  refine v_aload_n C eX12_begin_10 rfl 0 rfl ?_
  refine v_lconst (v := (0 : Int64)) C eX12_begin_11 (by decide) ?_
  refine n_put (fs' := mO ad (upd (upd x 18 (nI 3)) 20 (nI 0)) ((0 : Int64))) C I fX12_183_X12p eX12_begin_12 (hN 49 (by decide)) rfl rfl rfl (Nat.le_of_ble_eq_true rfl) rfl ?_
  refine v_iconst (v := (0 : Int32)) C eX12_begin_15 (by decide) ?_
  refine v_istore_n (lv' := [(0, .ref (ad 49)), (1, .int (nI 3)), (2, .int ((0 : Int32)))]) C eX12_begin_16 rfl (by decide) [1, 2, 0] rfl ?_
  refine v_eq (w' := nW ad N (va_up (va_up (va_up (va_up (va_up (va_up σ 13 (eJ G 25 S)) 14 (eJ G 25 O)) 15 (eJ G 5 D)) 16 (eJ G 80 W)) 17 (eB G 128 Bk)) 49 (eO 9 (mO ad (upd (upd x 18 (nI 3)) 20 (nI 0)) ((0 : Int64)))))) (congrArg (nW ad N) (n_extL [13, 14, 15, 16, 17, 49] ⟨rfl, rfl, rfl, rfl, rfl, rfl, trivial⟩ (fun q h => by simp only [List.mem_cons, List.not_mem_nil, or_false, not_or] at h; simp [va_up, h]))) rfl rfl ?_
  refine v_forV (fun i => va_up (va_up (va_up (va_up (va_up (va_up σ 13 (eJ G 25 (zS i S))) 14 (eJ G 25 O)) 15 (eJ G 5 D)) 16 (eJ G 80 W)) 17 (eB G 128 Bk)) 49 (eO 9 (mO ad (upd (upd x 18 (nI 3)) 20 (nI 0)) ((0 : Int64))))) (fun i => [(0, .ref (ad 49)), (1, .int (nI 3)), (2, .int (nI i))]) 25 ?_ ?_
  · refine v_iload_n C eX12_begin_17 rfl 2 rfl ?_
    refine v_bipush (v := (25 : Int32)) C eX12_begin_18 (by decide) ?_
    refine v_icmp_ge (tgt := 36) C eX12_begin_20 (by decide) (fun _ => ?_) (fun h => absurd (ix_le (a := 25) (b := 25) (rfl : (25 : Int32) = nI 25) (rfl : nI 25 = nI 25) (by omega) (by omega) (by omega)) h)
    refine v_aload_n C eX12_begin_36 rfl 0 rfl ?_
    refine v_iload_n C eX12_begin_37 rfl 1 rfl ?_
    refine v_bipush (v := (11 : Int32)) C eX12_begin_38 (by decide) ?_
    refine v_icmp_ne (tgt := 49) C eX12_begin_40 (by decide) (fun _ => ?_) (fun h => absurd h (ix_ne (a := 3) (b := 11) (rfl : nI 3 = nI 3) (rfl : (11 : Int32) = nI 11) (by omega) (by omega) (by omega)))
    refine v_iload_n C eX12_begin_49 rfl 1 rfl ?_
    refine v_bipush (v := (12 : Int32)) C eX12_begin_50 (by decide) ?_
    refine v_icmp_ne (tgt := 61) C eX12_begin_52 (by decide) (fun _ => ?_) (fun h => absurd h (ix_ne (a := 3) (b := 12) (rfl : nI 3 = nI 3) (rfl : (12 : Int32) = nI 12) (by omega) (by omega) (by omega)))
    refine v_iload_n C eX12_begin_61 rfl 1 rfl ?_
    refine v_bipush (v := (6 : Int32)) C eX12_begin_62 (by decide) ?_
    refine v_icmp_le (tgt := 80) C eX12_begin_64 (by decide) (fun _ => ?_) (fun h => absurd (ix_le (a := 3) (b := 6) (rfl : nI 3 = nI 3) (rfl : (6 : Int32) = nI 6) (by omega) (by omega) (by omega)) h)
    refine v_iload_n C eX12_begin_80 rfl 1 rfl ?_
    refine n_callS (av := [.int (nI 3)]) (rest := [.ref (ad 49)]) C mX12_190 (c_blockOf3) rfl (by decide) (by decide) ⟨by decide, by decide⟩ rfl rfl (Nat.le_of_ble_eq_true rfl) eX12_begin_81 (fun r σ' hp => ?_)
    obtain ⟨rfl, rfl⟩ := hp
    refine n_put (fs' := mO ad (upd (upd (upd x 18 (nI 3)) 19 (nI (rateK 3))) 20 (nI 0)) ((0 : Int64))) C I fX12_193_X12p eX12_begin_84 (hN 49 (by decide)) rfl rfl rfl (Nat.le_of_ble_eq_true rfl) rfl ?_
    refine v_iconst (v := (0 : Int32)) C eX12_begin_87 (by decide) ?_
    refine v_istore_n (lv' := [(0, .ref (ad 49)), (1, .int (nI 3)), (2, .int ((0 : Int32)))]) C eX12_begin_88 rfl (by decide) [1, 2, 0] rfl ?_
    refine v_eq (w' := nW ad N (va_up (va_up (va_up (va_up (va_up (va_up σ 13 (eJ G 25 (zS 25 S))) 14 (eJ G 25 O)) 15 (eJ G 5 D)) 16 (eJ G 80 W)) 17 (eB G 128 Bk)) 49 (eO 9 (mO ad (upd (upd (upd x 18 (nI 3)) 19 (nI (rateK 3))) 20 (nI 0)) ((0 : Int64)))))) (congrArg (nW ad N) (n_extL [13, 14, 15, 16, 17, 49] ⟨rfl, rfl, rfl, rfl, rfl, rfl, trivial⟩ (fun q h => by simp only [List.mem_cons, List.not_mem_nil, or_false, not_or] at h; simp [va_up, h]))) rfl rfl ?_
    refine v_forV (fun j => va_up (va_up (va_up (va_up (va_up (va_up σ 13 (eJ G 25 (bgS 3 Rt j (zS 25 S)))) 14 (eJ G 25 O)) 15 (eJ G 5 D)) 16 (eJ G 80 W)) 17 (eB G 128 Bk)) 49 (eO 9 (mO ad (upd (upd (upd x 18 (nI 3)) 19 (nI (rateK 3))) 20 (nI 0)) ((0 : Int64))))) (fun j => [(0, .ref (ad 49)), (1, .int (nI 3)), (2, .int (nI j))]) 8 ?_ ?_
    · refine v_iload_n C eX12_begin_89 rfl 2 rfl ?_
      refine v_bipush (v := (8 : Int32)) C eX12_begin_90 (by decide) ?_
      refine v_icmp_ge (tgt := 203) C eX12_begin_92 (by decide) (fun _ => ?_) (fun h => absurd (ix_le (a := 8) (b := 8) (rfl : (8 : Int32) = nI 8) (rfl : nI 8 = nI 8) (by omega) (by omega) (by omega)) h)
      exact n_vret C rfl eX12_begin_203 ⟨rfl, rfl⟩
    · intro j hj ihj
      refine v_iload_n C eX12_begin_89 rfl 2 rfl ?_
      refine v_bipush (v := (8 : Int32)) C eX12_begin_90 (by decide) ?_
      refine v_icmp_ge (tgt := 203) C eX12_begin_92 (by decide) (fun h => absurd h (ix_nle (a := 8) (b := j) (rfl : (8 : Int32) = nI 8) (rfl : nI j = nI j) (by omega) (by omega) (by omega))) (fun _ => ?_)
      refine v_iload_n C eX12_begin_95 rfl 1 rfl ?_
      refine v_bipush (v := (7 : Int32)) C eX12_begin_96 (by decide) ?_
      refine v_icmp_ge (tgt := 203) C eX12_begin_98 (by decide) (fun h => absurd h (ix_nle (a := 7) (b := 3) (rfl : (7 : Int32) = nI 7) (rfl : nI 3 = nI 3) (by omega) (by omega) (by omega))) (fun _ => ?_)
      refine v_aload_n C eX12_begin_101 rfl 0 rfl ?_
      refine n_get C I fX12_48_X12 eX12_begin_102 (hN 49 (by decide)) rfl rfl ?_
      refine v_iload_n C eX12_begin_105 rfl 2 rfl ?_
      refine v_iload_n C eX12_begin_106 rfl 1 rfl ?_
      refine v_iconst (v := (1 : Int32)) C eX12_begin_107 (by decide) ?_
      refine v_icmp_ne (tgt := 123) C eX12_begin_108 (by decide) (fun _ => ?_) (fun h => absurd h (ix_ne (a := 3) (b := 1) (rfl : nI 3 = nI 3) (rfl : (1 : Int32) = nI 1) (by omega) (by omega) (by omega)))
      refine v_iload_n C eX12_begin_123 rfl 1 rfl ?_
      refine v_iconst (v := (4 : Int32)) C eX12_begin_124 (by decide) ?_
      refine v_icmp_ne (tgt := 144) C eX12_begin_125 (by decide) (fun _ => ?_) (fun h => absurd h (ix_ne (a := 3) (b := 4) (rfl : nI 3 = nI 3) (rfl : (4 : Int32) = nI 4) (by omega) (by omega) (by omega)))
      refine v_iload_n C eX12_begin_144 rfl 1 rfl ?_
      refine v_iconst (v := (2 : Int32)) C eX12_begin_145 (by decide) ?_
      refine v_icmp_ne (tgt := 161) C eX12_begin_146 (by decide) (fun _ => ?_) (fun h => absurd h (ix_ne (a := 3) (b := 2) (rfl : nI 3 = nI 3) (rfl : (2 : Int32) = nI 2) (by omega) (by omega) (by omega)))
      refine v_iload_n C eX12_begin_161 rfl 1 rfl ?_
      refine v_iconst (v := (5 : Int32)) C eX12_begin_162 (by decide) ?_
      refine v_icmp_ne (tgt := 175) C eX12_begin_163 (by decide) (fun _ => ?_) (fun h => absurd h (ix_ne (a := 3) (b := 5) (rfl : nI 3 = nI 3) (rfl : (5 : Int32) = nI 5) (by omega) (by omega) (by omega)))
      refine v_iload_n C eX12_begin_175 rfl 1 rfl ?_
      refine v_bipush (v := (6 : Int32)) C eX12_begin_176 (by decide) ?_
      refine v_icmp_ne (tgt := 190) C eX12_begin_178 (by decide) (fun _ => ?_) (fun h => absurd h (ix_ne (a := 3) (b := 6) (rfl : nI 3 = nI 3) (rfl : (6 : Int32) = nI 6) (by omega) (by omega) (by omega)))
      refine v_aload_n C eX12_begin_190 rfl 0 rfl ?_
      refine n_get C I fX12_23_X12 eX12_begin_191 (hN 49 (by decide)) rfl rfl ?_
      refine v_iload_n C eX12_begin_194 rfl 2 rfl ?_
      refine n_lald C I eX12_begin_195 (hN 5 (by decide)) h5 j (rfl : nI j = nI j) (by omega) (by decide) ?_
      refine n_last C I eX12_begin_196 (hN 13 (by decide)) rfl j (rfl : nI j = nI j) (by omega) (by decide) ?_
      refine v_iinc (lv' := [(0, .ref (ad 49)), (1, .int (nI 3)), (2, .int (nI (j + 1)))]) C eX12_begin_197 2 rfl (ix_inc _) (by decide) [1, 2, 0] rfl ?_
      refine v_goto (tgt := 89) C eX12_begin_200 (by decide) ?_
      refine v_eq (w' := nW ad N (va_up (va_up (va_up (va_up (va_up (va_up σ 13 (eJ G 25 (vp_updL (bgS 3 Rt j (zS 25 S)) j (Rt j)))) 14 (eJ G 25 O)) 15 (eJ G 5 D)) 16 (eJ G 80 W)) 17 (eB G 128 Bk)) 49 (eO 9 (mO ad (upd (upd (upd x 18 (nI 3)) 19 (nI (rateK 3))) 20 (nI 0)) ((0 : Int64)))))) (congrArg (nW ad N) (n_extL [13, 14, 15, 16, 17, 49] ⟨rfl, rfl, rfl, rfl, rfl, rfl, trivial⟩ (fun q h => by simp only [List.mem_cons, List.not_mem_nil, or_false, not_or] at h; simp [va_up, h]))) rfl rfl ?_
      exact ihj
  · intro i hi ih
    refine v_iload_n C eX12_begin_17 rfl 2 rfl ?_
    refine v_bipush (v := (25 : Int32)) C eX12_begin_18 (by decide) ?_
    refine v_icmp_ge (tgt := 36) C eX12_begin_20 (by decide) (fun h => absurd h (ix_nle (a := 25) (b := i) (rfl : (25 : Int32) = nI 25) (rfl : nI i = nI i) (by omega) (by omega) (by omega))) (fun _ => ?_)
    refine v_aload_n C eX12_begin_23 rfl 0 rfl ?_
    refine n_get C I fX12_48_X12 eX12_begin_24 (hN 49 (by decide)) rfl rfl ?_
    refine v_iload_n C eX12_begin_27 rfl 2 rfl ?_
    refine v_lconst (v := (0 : Int64)) C eX12_begin_28 (by decide) ?_
    refine n_last C I eX12_begin_29 (hN 13 (by decide)) rfl i (rfl : nI i = nI i) (by omega) (by decide) ?_
    refine v_iinc (lv' := [(0, .ref (ad 49)), (1, .int (nI 3)), (2, .int (nI (i + 1)))]) C eX12_begin_30 2 rfl (ix_inc _) (by decide) [1, 2, 0] rfl ?_
    refine v_goto (tgt := 17) C eX12_begin_33 (by decide) ?_
    refine v_eq (w' := nW ad N (va_up (va_up (va_up (va_up (va_up (va_up σ 13 (eJ G 25 (vp_updL (zS i S) i ((0 : Int64))))) 14 (eJ G 25 O)) 15 (eJ G 5 D)) 16 (eJ G 80 W)) 17 (eB G 128 Bk)) 49 (eO 9 (mO ad (upd (upd x 18 (nI 3)) 20 (nI 0)) ((0 : Int64)))))) (congrArg (nW ad N) (n_extL [13, 14, 15, 16, 17, 49] ⟨rfl, rfl, rfl, rfl, rfl, rfl, trivial⟩ (fun q h => by simp only [List.mem_cons, List.not_mem_nil, or_false, not_or] at h; simp [va_up, h]))) rfl rfl ?_
    exact ih

set_option maxRecDepth 100000 in
set_option maxHeartbeats 4000000 in
theorem c_begin12 (I : nI1 ad N) (hN : ∀ k, k < 74 → k < N) {σ : nS} {x T : Nat → Int32} {Rc K : Nat → Int64} (h11 : σ 11 = eI G 25 T) (h12 : σ 12 = eJ G 24 Rc) (h6 : σ 6 = eJ G 80 K) {Rt : Nat → Int64} (h5 : σ 5 = eJ G 16 Rt) (S O D W : Nat → Int64) (Bk : Nat → Int32) (fl : Nat) (tt : Int64) : nOk G B l ad N yX12_begin cX12_begin 3 none 1 0 0 [.ref (ad 49), .int (nI 12)] (gσ G ad σ x (S, O, D, W, Bk, fl, tt)) (fun r σ' => r = none ∧ σ' = hσ G ad σ x 12 (hBeg 12 Rt (S, O, D, W, Bk, fl, tt))) := by
  refine vOk.of (by decide +kernel) (Nat.le_of_ble_eq_true rfl) ?_
  intro p e s m args below meth c C
  refine v_eq (lv' := [(0, .ref (ad 49)), (1, .int (nI 12))]) rfl rfl rfl ?_
  refine v_eq (w' := nW ad N (va_up (va_up (va_up (va_up (va_up (va_up σ 13 (eJ G 25 S)) 14 (eJ G 25 O)) 15 (eJ G 5 D)) 16 (eJ G 80 W)) 17 (eB G 128 Bk)) 49 (eO 9 (mO ad x tt)))) rfl rfl rfl ?_
  refine v_aload_n C eX12_begin_0 rfl 0 rfl ?_
  refine v_iload_n C eX12_begin_1 rfl 1 rfl ?_
  refine n_put (fs' := mO ad (upd x 18 (nI 12)) tt) C I fX12_177_X12p eX12_begin_2 (hN 49 (by decide)) rfl rfl rfl (Nat.le_of_ble_eq_true rfl) rfl ?_
  refine v_aload_n C eX12_begin_5 rfl 0 rfl ?_
  refine v_iconst (v := nI 0) C eX12_begin_6 (by decide) ?_
  refine n_put (fs' := mO ad (upd (upd x 18 (nI 12)) 20 (nI 0)) tt) C I fX12_180_X12p eX12_begin_7 (hN 49 (by decide)) rfl rfl rfl (Nat.le_of_ble_eq_true rfl) rfl ?_
  refine v_aload_n C eX12_begin_10 rfl 0 rfl ?_
  refine v_lconst (v := (0 : Int64)) C eX12_begin_11 (by decide) ?_
  refine n_put (fs' := mO ad (upd (upd x 18 (nI 12)) 20 (nI 0)) ((0 : Int64))) C I fX12_183_X12p eX12_begin_12 (hN 49 (by decide)) rfl rfl rfl (Nat.le_of_ble_eq_true rfl) rfl ?_
  refine v_iconst (v := (0 : Int32)) C eX12_begin_15 (by decide) ?_
  refine v_istore_n (lv' := [(0, .ref (ad 49)), (1, .int (nI 12)), (2, .int ((0 : Int32)))]) C eX12_begin_16 rfl (by decide) [1, 2, 0] rfl ?_
  refine v_eq (w' := nW ad N (va_up (va_up (va_up (va_up (va_up (va_up σ 13 (eJ G 25 S)) 14 (eJ G 25 O)) 15 (eJ G 5 D)) 16 (eJ G 80 W)) 17 (eB G 128 Bk)) 49 (eO 9 (mO ad (upd (upd x 18 (nI 12)) 20 (nI 0)) ((0 : Int64)))))) (congrArg (nW ad N) (n_extL [13, 14, 15, 16, 17, 49] ⟨rfl, rfl, rfl, rfl, rfl, rfl, trivial⟩ (fun q h => by simp only [List.mem_cons, List.not_mem_nil, or_false, not_or] at h; simp [va_up, h]))) rfl rfl ?_
  refine v_forV (fun i => va_up (va_up (va_up (va_up (va_up (va_up σ 13 (eJ G 25 (zS i S))) 14 (eJ G 25 O)) 15 (eJ G 5 D)) 16 (eJ G 80 W)) 17 (eB G 128 Bk)) 49 (eO 9 (mO ad (upd (upd x 18 (nI 12)) 20 (nI 0)) ((0 : Int64))))) (fun i => [(0, .ref (ad 49)), (1, .int (nI 12)), (2, .int (nI i))]) 25 ?_ ?_
  · refine v_iload_n C eX12_begin_17 rfl 2 rfl ?_
    refine v_bipush (v := (25 : Int32)) C eX12_begin_18 (by decide) ?_
    refine v_icmp_ge (tgt := 36) C eX12_begin_20 (by decide) (fun _ => ?_) (fun h => absurd (ix_le (a := 25) (b := 25) (rfl : (25 : Int32) = nI 25) (rfl : nI 25 = nI 25) (by omega) (by omega) (by omega)) h)
    refine v_aload_n C eX12_begin_36 rfl 0 rfl ?_
    refine v_iload_n C eX12_begin_37 rfl 1 rfl ?_
    refine v_bipush (v := (11 : Int32)) C eX12_begin_38 (by decide) ?_
    refine v_icmp_ne (tgt := 49) C eX12_begin_40 (by decide) (fun _ => ?_) (fun h => absurd h (ix_ne (a := 12) (b := 11) (rfl : nI 12 = nI 12) (rfl : (11 : Int32) = nI 11) (by omega) (by omega) (by omega)))
    refine v_iload_n C eX12_begin_49 rfl 1 rfl ?_
    refine v_bipush (v := (12 : Int32)) C eX12_begin_50 (by decide) ?_
    refine v_icmp_ne (tgt := 61) C eX12_begin_52 (by decide) (fun h => absurd (ix_eq (a := 12) (b := 12) (rfl : nI 12 = nI 12) (rfl : (12 : Int32) = nI 12) (by omega) (by omega) (by omega)) h) (fun _ => ?_)
    refine v_sipush (v := nI (rateK 12)) C eX12_begin_55 (by decide) ?_
    refine v_goto (tgt := 84) C eX12_begin_58 (by decide) ?_
    refine n_put (fs' := mO ad (upd (upd (upd x 18 (nI 12)) 19 (nI (rateK 12))) 20 (nI 0)) ((0 : Int64))) C I fX12_193_X12p eX12_begin_84 (hN 49 (by decide)) rfl rfl rfl (Nat.le_of_ble_eq_true rfl) rfl ?_
    refine v_iconst (v := (0 : Int32)) C eX12_begin_87 (by decide) ?_
    refine v_istore_n (lv' := [(0, .ref (ad 49)), (1, .int (nI 12)), (2, .int ((0 : Int32)))]) C eX12_begin_88 rfl (by decide) [1, 2, 0] rfl ?_
    refine v_iload_n C eX12_begin_89 rfl 2 rfl ?_
    refine v_bipush (v := (8 : Int32)) C eX12_begin_90 (by decide) ?_
    refine v_icmp_ge (tgt := 203) C eX12_begin_92 (by decide) (fun h => absurd h (ix_nle (a := 8) (b := 0) (rfl : (8 : Int32) = nI 8) (rfl : (0 : Int32) = nI 0) (by omega) (by omega) (by omega))) (fun _ => ?_)
    refine v_iload_n C eX12_begin_95 rfl 1 rfl ?_
    refine v_bipush (v := (7 : Int32)) C eX12_begin_96 (by decide) ?_
    refine v_icmp_ge (tgt := 203) C eX12_begin_98 (by decide) (fun _ => ?_) (fun h => absurd (ix_le (a := 7) (b := 12) (rfl : (7 : Int32) = nI 7) (rfl : nI 12 = nI 12) (by omega) (by omega) (by omega)) h)
    refine v_eq (w' := nW ad N (va_up (va_up (va_up (va_up (va_up (va_up σ 13 (eJ G 25 (zS 25 S))) 14 (eJ G 25 O)) 15 (eJ G 5 D)) 16 (eJ G 80 W)) 17 (eB G 128 Bk)) 49 (eO 9 (mO ad (upd (upd (upd x 18 (nI 12)) 19 (nI (rateK 12))) 20 (nI 0)) ((0 : Int64)))))) (congrArg (nW ad N) (n_extL [13, 14, 15, 16, 17, 49] ⟨rfl, rfl, rfl, rfl, rfl, rfl, trivial⟩ (fun q h => by simp only [List.mem_cons, List.not_mem_nil, or_false, not_or] at h; simp [va_up, h]))) rfl rfl ?_
    exact n_vret C rfl eX12_begin_203 ⟨rfl, rfl⟩
  · intro i hi ih
    refine v_iload_n C eX12_begin_17 rfl 2 rfl ?_
    refine v_bipush (v := (25 : Int32)) C eX12_begin_18 (by decide) ?_
    refine v_icmp_ge (tgt := 36) C eX12_begin_20 (by decide) (fun h => absurd h (ix_nle (a := 25) (b := i) (rfl : (25 : Int32) = nI 25) (rfl : nI i = nI i) (by omega) (by omega) (by omega))) (fun _ => ?_)
    refine v_aload_n C eX12_begin_23 rfl 0 rfl ?_
    refine n_get C I fX12_48_X12 eX12_begin_24 (hN 49 (by decide)) rfl rfl ?_
    refine v_iload_n C eX12_begin_27 rfl 2 rfl ?_
    refine v_lconst (v := (0 : Int64)) C eX12_begin_28 (by decide) ?_
    refine n_last C I eX12_begin_29 (hN 13 (by decide)) rfl i (rfl : nI i = nI i) (by omega) (by decide) ?_
    refine v_iinc (lv' := [(0, .ref (ad 49)), (1, .int (nI 12)), (2, .int (nI (i + 1)))]) C eX12_begin_30 2 rfl (ix_inc _) (by decide) [1, 2, 0] rfl ?_
    refine v_goto (tgt := 17) C eX12_begin_33 (by decide) ?_
    refine v_eq (w' := nW ad N (va_up (va_up (va_up (va_up (va_up (va_up σ 13 (eJ G 25 (vp_updL (zS i S) i ((0 : Int64))))) 14 (eJ G 25 O)) 15 (eJ G 5 D)) 16 (eJ G 80 W)) 17 (eB G 128 Bk)) 49 (eO 9 (mO ad (upd (upd x 18 (nI 12)) 20 (nI 0)) ((0 : Int64)))))) (congrArg (nW ad N) (n_extL [13, 14, 15, 16, 17, 49] ⟨rfl, rfl, rfl, rfl, rfl, rfl, trivial⟩ (fun q h => by simp only [List.mem_cons, List.not_mem_nil, or_false, not_or] at h; simp [va_up, h]))) rfl rfl ?_
    exact ih

end M5
end
section
theorem eX12_finish_0 : vD cX12_finish 0 (.aload_n 0) 1 1 := ⟨by decide +kernel, rfl⟩
theorem eX12_finish_1 : vD cX12_finish 1 (.invokevirtual 198) 3 4 := ⟨by decide +kernel, rfl⟩
theorem eX12_finish_4 : vD cX12_finish 4 (.ifCond .eq 50) 3 7 := ⟨by decide +kernel, rfl⟩
theorem eX12_finish_7 : vD cX12_finish 7 (.aload_n 0) 1 8 := ⟨by decide +kernel, rfl⟩
theorem eX12_finish_8 : vD cX12_finish 8 (.aload_n 0) 1 9 := ⟨by decide +kernel, rfl⟩
theorem eX12_finish_9 : vD cX12_finish 9 (.getfield 180) 3 12 := ⟨by decide +kernel, rfl⟩
theorem eX12_finish_12 : vD cX12_finish 12 (.aload_n 0) 1 13 := ⟨by decide +kernel, rfl⟩
theorem eX12_finish_13 : vD cX12_finish 13 (.getfield 177) 3 16 := ⟨by decide +kernel, rfl⟩
theorem eX12_finish_16 : vD cX12_finish 16 (.bipush 10) 2 18 := ⟨by decide +kernel, rfl⟩
theorem eX12_finish_18 : vD cX12_finish 18 (.if_icmp .le 8) 3 21 := ⟨by decide +kernel, rfl⟩
theorem eX12_finish_21 : vD cX12_finish 21 (.bipush 31) 2 23 := ⟨by decide +kernel, rfl⟩
theorem eX12_finish_23 : vD cX12_finish 23 (.goto 5) 3 26 := ⟨by decide +kernel, rfl⟩
theorem eX12_finish_26 : vD cX12_finish 26 (.bipush 6) 2 28 := ⟨by decide +kernel, rfl⟩
theorem eX12_finish_28 : vD cX12_finish 28 (.invokevirtual 202) 3 31 := ⟨by decide +kernel, rfl⟩
theorem eX12_finish_31 : vD cX12_finish 31 (.aload_n 0) 1 32 := ⟨by decide +kernel, rfl⟩
theorem eX12_finish_32 : vD cX12_finish 32 (.aload_n 0) 1 33 := ⟨by decide +kernel, rfl⟩
theorem eX12_finish_33 : vD cX12_finish 33 (.getfield 193) 3 36 := ⟨by decide +kernel, rfl⟩
theorem eX12_finish_36 : vD cX12_finish 36 (.iconst 1) 1 37 := ⟨by decide +kernel, rfl⟩
theorem eX12_finish_37 : vD cX12_finish 37 .isub 1 38 := ⟨by decide +kernel, rfl⟩
theorem eX12_finish_38 : vD cX12_finish 38 (.sipush 128) 3 41 := ⟨by decide +kernel, rfl⟩
theorem eX12_finish_41 : vD cX12_finish 41 (.invokevirtual 202) 3 44 := ⟨by decide +kernel, rfl⟩
theorem eX12_finish_44 : vD cX12_finish 44 (.aload_n 0) 1 45 := ⟨by decide +kernel, rfl⟩
theorem eX12_finish_45 : vD cX12_finish 45 (.invokevirtual 206) 3 48 := ⟨by decide +kernel, rfl⟩
theorem eX12_finish_48 : vD cX12_finish 48 (.aload_n 0) 1 49 := ⟨by decide +kernel, rfl⟩
theorem eX12_finish_49 : vD cX12_finish 49 (.iconst 0) 1 50 := ⟨by decide +kernel, rfl⟩
theorem eX12_finish_50 : vD cX12_finish 50 (.putfield 180) 3 53 := ⟨by decide +kernel, rfl⟩
theorem eX12_finish_53 : vD cX12_finish 53 .return_ 1 54 := ⟨by decide +kernel, rfl⟩
theorem eX12_finish_54 : vD cX12_finish 54 (.ldc2_w 227) 3 57 := ⟨by decide +kernel, rfl⟩
theorem eX12_finish_57 : vD cX12_finish 57 (.aload_n 0) 1 58 := ⟨by decide +kernel, rfl⟩
theorem eX12_finish_58 : vD cX12_finish 58 (.getfield 183) 3 61 := ⟨by decide +kernel, rfl⟩
theorem eX12_finish_61 : vD cX12_finish 61 .lmul 1 62 := ⟨by decide +kernel, rfl⟩
theorem eX12_finish_62 : vD cX12_finish 62 (.lstore_n 1) 1 63 := ⟨by decide +kernel, rfl⟩
theorem eX12_finish_63 : vD cX12_finish 63 (.aload_n 0) 1 64 := ⟨by decide +kernel, rfl⟩
theorem eX12_finish_64 : vD cX12_finish 64 (.sipush 128) 3 67 := ⟨by decide +kernel, rfl⟩
theorem eX12_finish_67 : vD cX12_finish 67 (.invokevirtual 171) 3 70 := ⟨by decide +kernel, rfl⟩
theorem eX12_finish_70 : vD cX12_finish 70 (.aload_n 0) 1 71 := ⟨by decide +kernel, rfl⟩
theorem eX12_finish_71 : vD cX12_finish 71 (.getfield 180) 3 74 := ⟨by decide +kernel, rfl⟩
theorem eX12_finish_74 : vD cX12_finish 74 (.aload_n 0) 1 75 := ⟨by decide +kernel, rfl⟩
theorem eX12_finish_75 : vD cX12_finish 75 (.getfield 193) 3 78 := ⟨by decide +kernel, rfl⟩
theorem eX12_finish_78 : vD cX12_finish 78 (.aload_n 0) 1 79 := ⟨by decide +kernel, rfl⟩
theorem eX12_finish_79 : vD cX12_finish 79 (.getfield 193) 3 82 := ⟨by decide +kernel, rfl⟩
theorem eX12_finish_82 : vD cX12_finish 82 (.bipush 8) 2 84 := ⟨by decide +kernel, rfl⟩
theorem eX12_finish_84 : vD cX12_finish 84 .idiv 1 85 := ⟨by decide +kernel, rfl⟩
theorem eX12_finish_85 : vD cX12_finish 85 .isub 1 86 := ⟨by decide +kernel, rfl⟩
theorem eX12_finish_86 : vD cX12_finish 86 (.if_icmp .eq 11) 3 89 := ⟨by decide +kernel, rfl⟩
theorem eX12_finish_89 : vD cX12_finish 89 (.aload_n 0) 1 90 := ⟨by decide +kernel, rfl⟩
theorem eX12_finish_90 : vD cX12_finish 90 (.iconst 0) 1 91 := ⟨by decide +kernel, rfl⟩
theorem eX12_finish_91 : vD cX12_finish 91 (.invokevirtual 171) 3 94 := ⟨by decide +kernel, rfl⟩
theorem eX12_finish_94 : vD cX12_finish 94 (.goto (-24)) 3 97 := ⟨by decide +kernel, rfl⟩
theorem eX12_finish_97 : vD cX12_finish 97 (.aload_n 0) 1 98 := ⟨by decide +kernel, rfl⟩
theorem eX12_finish_98 : vD cX12_finish 98 (.getfield 193) 3 101 := ⟨by decide +kernel, rfl⟩
theorem eX12_finish_101 : vD cX12_finish 101 (.bipush 8) 2 103 := ⟨by decide +kernel, rfl⟩
theorem eX12_finish_103 : vD cX12_finish 103 .idiv 1 104 := ⟨by decide +kernel, rfl⟩
theorem eX12_finish_104 : vD cX12_finish 104 (.iconst 1) 1 105 := ⟨by decide +kernel, rfl⟩
theorem eX12_finish_105 : vD cX12_finish 105 .isub 1 106 := ⟨by decide +kernel, rfl⟩
theorem eX12_finish_106 : vD cX12_finish 106 (.istore_n 3) 1 107 := ⟨by decide +kernel, rfl⟩
theorem eX12_finish_107 : vD cX12_finish 107 (.iload_n 3) 1 108 := ⟨by decide +kernel, rfl⟩
theorem eX12_finish_108 : vD cX12_finish 108 (.ifCond .lt 30) 3 111 := ⟨by decide +kernel, rfl⟩
theorem eX12_finish_111 : vD cX12_finish 111 (.aload_n 0) 1 112 := ⟨by decide +kernel, rfl⟩
theorem eX12_finish_112 : vD cX12_finish 112 (.iload_n 3) 1 113 := ⟨by decide +kernel, rfl⟩
theorem eX12_finish_113 : vD cX12_finish 113 (.bipush 8) 2 115 := ⟨by decide +kernel, rfl⟩
theorem eX12_finish_115 : vD cX12_finish 115 (.if_icmp .ge 13) 3 118 := ⟨by decide +kernel, rfl⟩
theorem eX12_finish_118 : vD cX12_finish 118 (.lload_n 1) 1 119 := ⟨by decide +kernel, rfl⟩
theorem eX12_finish_119 : vD cX12_finish 119 (.bipush 8) 2 121 := ⟨by decide +kernel, rfl⟩
theorem eX12_finish_121 : vD cX12_finish 121 (.iload_n 3) 1 122 := ⟨by decide +kernel, rfl⟩
theorem eX12_finish_122 : vD cX12_finish 122 .imul 1 123 := ⟨by decide +kernel, rfl⟩
theorem eX12_finish_123 : vD cX12_finish 123 .lushr 1 124 := ⟨by decide +kernel, rfl⟩
theorem eX12_finish_124 : vD cX12_finish 124 .l2i 1 125 := ⟨by decide +kernel, rfl⟩
theorem eX12_finish_125 : vD cX12_finish 125 (.goto 4) 3 128 := ⟨by decide +kernel, rfl⟩
theorem eX12_finish_128 : vD cX12_finish 128 (.iconst 0) 1 129 := ⟨by decide +kernel, rfl⟩
theorem eX12_finish_129 : vD cX12_finish 129 (.invokevirtual 171) 3 132 := ⟨by decide +kernel, rfl⟩
theorem eX12_finish_132 : vD cX12_finish 132 (.iinc 3 (-1)) 3 135 := ⟨by decide +kernel, rfl⟩
theorem eX12_finish_135 : vD cX12_finish 135 (.goto (-28)) 3 138 := ⟨by decide +kernel, rfl⟩
theorem eX12_finish_138 : vD cX12_finish 138 .return_ 1 139 := ⟨by decide +kernel, rfl⟩

def hZero (T : Nat → Int32) (Rc K : Nat → Int64) (k n : Nat) (h : hT) : hT := itN (fun _ h => hPut T Rc K k 0 h) n h
/-- the byte i of the length's bits -/
def lenB (b : Int64) (i : Nat) : Int32 := if i < 8 then (us64 b ((8 : Int32) * nI i)).toInt32 else 0
def hLen (T : Nat → Int32) (Rc K : Nat → Int64) (k r : Nat) (b : Int64) (n : Nat) (h : hT) : hT := itN (fun j h => hPut T Rc K k (lenB b (r - 1 - j)) h) n h
theorem ix_m1 : Int32.ofInt (-1) = (-1 : Int32) := by decide
def padZ (k f : Nat) : Nat := (rateK k - rateK k / 8 + rateK k - f) % rateK k
def hFin (T : Nat → Int32) (Rc K : Nat → Int64) (k : Nat) (h : hT) : hT :=
  if k = 12 then (match h with
    | (S, O, D, W, Bk, f, t) => ((itN (pmR T Rc) 24 (sp1 (sp1 S f 31) 135 128, O, D)).1, (itN (pmR T Rc) 24 (sp1 (sp1 S f 31) 135 128, O, D)).2.1, (itN (pmR T Rc) 24 (sp1 (sp1 S f 31) 135 128, O, D)).2.2, W, Bk, 0, t))
  else hLen T Rc K k (rateK k / 8) (8 * h.2.2.2.2.2.2) (rateK k / 8) (hZero T Rc K k (padZ k (hPut T Rc K k 128 h).2.2.2.2.2.1) (hPut T Rc K k 128 h))
theorem hPut_fill {T : Nat → Int32} {Rc K : Nat → Int64} {k : Nat} (hk : k = 1 ∨ k = 3 ∨ k = 12) (v : Int32) (h : hT) (hf : h.2.2.2.2.2.1 < rateK k) : (hPut T Rc K k v h).2.2.2.2.2.1 = (h.2.2.2.2.2.1 + 1) % rateK k := by
  obtain ⟨S, O, D, W, Bk, f, t⟩ := h
  have h1 : (hPut1 k v (S, O, D, W, Bk, f, t)).2.2.2.2.2.1 = f + 1 := by unfold hPut1; by_cases q : k = 12 <;> simp [q]
  have hf : f < rateK k := hf
  show _ = (f + 1) % rateK k
  unfold hPut
  by_cases q : f + 1 = rateK k
  · rw [if_pos q, q, Nat.mod_self]
    generalize hPut1 k v (S, O, D, W, Bk, f, t) = g
    obtain ⟨S, O, D, W, Bk, f, t⟩ := g
    unfold hBlk
    by_cases q1 : k = 12
    · simp [q1]
    · by_cases q2 : k = 1
      · simp [q2]
      · simp [q1, q2]
  · rw [if_neg q, h1, Nat.mod_eq_of_lt (by omega)]
theorem hZero_fill {T : Nat → Int32} {Rc K : Nat → Int64} {k : Nat} (hk : k = 1 ∨ k = 3 ∨ k = 12) (h : hT) (hf : h.2.2.2.2.2.1 < rateK k) : ∀ n, (hZero T Rc K k n h).2.2.2.2.2.1 = (h.2.2.2.2.2.1 + n) % rateK k
  | 0 => (Nat.mod_eq_of_lt hf).symm
  | n + 1 => by
    have ih := hZero_fill (T := T) (Rc := Rc) (K := K) hk h hf n
    have hp := rateK_pos hk
    have hl : (hZero T Rc K k n h).2.2.2.2.2.1 < rateK k := by rw [ih]; exact Nat.mod_lt _ (by omega)
    show (hPut T Rc K k 0 (hZero T Rc K k n h)).2.2.2.2.2.1 = _
    rw [hPut_fill hk 0 _ hl, ih, Nat.mod_add_mod]
    rfl
theorem hLen_lt {T : Nat → Int32} {Rc K : Nat → Int64} {k : Nat} (hk : k = 1 ∨ k = 3 ∨ k = 12) (r : Nat) (b : Int64) (h : hT) (hf : h.2.2.2.2.2.1 < rateK k) : ∀ n, (hLen T Rc K k r b n h).2.2.2.2.2.1 < rateK k
  | 0 => hf
  | n + 1 => hPut_lt hk _ _ (hLen_lt hk r b h hf n)
section M6
variable {G : vG} {B : Nat} {l : Launch} {ad : Nat → Nat} {N : Nat}
set_option maxRecDepth 100000 in
set_option maxHeartbeats 4000000 in
theorem c_finish12 (I : nI1 ad N) (hN : ∀ k, k < 74 → k < N) {σ : nS} {x T : Nat → Int32} {Rc K : Nat → Int64} (h11 : σ 11 = eI G 25 T) (h12 : σ 12 = eJ G 24 Rc) (h6 : σ 6 = eJ G 80 K) (S O D W : Nat → Int64) (Bk : Nat → Int32) (fl : Nat) (tt : Int64) (hf : fl < 136) : nOk G B l ad N yX12_finish cX12_finish 4 none 2 0 0 [.ref (ad 49)] (hσ G ad σ x 12 (S, O, D, W, Bk, fl, tt)) (fun r σ' => r = none ∧ σ' = hσ G ad σ x 12 (hFin T Rc K 12 (S, O, D, W, Bk, fl, tt))) := by
  refine vOk.of (by decide +kernel) (Nat.le_of_ble_eq_true rfl) ?_
  intro p e s m args below meth c C
  refine v_eq (lv' := [(0, .ref (ad 49))]) rfl rfl rfl ?_
  refine v_eq (w' := nW ad N (va_up (va_up (va_up (va_up (va_up (va_up σ 13 (eJ G 25 S)) 14 (eJ G 25 O)) 15 (eJ G 5 D)) 16 (eJ G 80 W)) 17 (eB G 128 Bk)) 49 (eO 9 (mO ad (upd (upd (upd x 18 (nI 12)) 19 (nI (rateK 12))) 20 (nI fl)) tt)))) rfl rfl rfl ?_
  refine v_aload_n C eX12_finish_0 rfl 0 rfl ?_
  refine n_callV (As := []) (rest := []) C I mX12_198 (c_sponge I hN rfl) (hN 49 (by decide)) rfl rfl (by omega) (by decide) ⟨by decide, by decide⟩ rfl rfl (Nat.le_of_ble_eq_true rfl) eX12_finish_1 (fun r σ' hp => ?_)
  obtain ⟨rfl, rfl⟩ := hp
  refine v_if_eq (tgt := 54) C eX12_finish_4 (by decide) (fun h => absurd h (show ¬ (if nI 12 ≤ (6 : Int32) then (0 : Int32) else 1) = 0 from by decide +kernel)) (fun _ => ?_)
  refine v_aload_n C eX12_finish_7 rfl 0 rfl ?_
  refine v_aload_n C eX12_finish_8 rfl 0 rfl ?_
  refine n_get C I fX12_180_X12 eX12_finish_9 (hN 49 (by decide)) rfl rfl ?_
  refine v_aload_n C eX12_finish_12 rfl 0 rfl ?_
  refine n_get C I fX12_177_X12 eX12_finish_13 (hN 49 (by decide)) rfl rfl ?_
  refine v_bipush (v := (10 : Int32)) C eX12_finish_16 (by decide) ?_
  refine v_icmp_le (tgt := 26) C eX12_finish_18 (by decide) (fun h => absurd h (ix_nle (a := 12) (b := 10) (rfl : nI 12 = nI 12) (rfl : (10 : Int32) = nI 10) (by omega) (by omega) (by omega))) (fun _ => ?_)
  refine v_bipush (v := (31 : Int32)) C eX12_finish_21 (by decide) ?_
  refine v_goto (tgt := 28) C eX12_finish_23 (by decide) ?_
  refine n_callV (As := [.int (nI fl), .int ((31 : Int32))]) (rest := []) C I mX12_202 (c_flip I hN rfl rfl fl 31 (by omega)) (hN 49 (by decide)) rfl rfl (by omega) (by decide) ⟨by decide, by decide⟩ rfl rfl (Nat.le_of_ble_eq_true rfl) eX12_finish_28 (fun r σ' hp => ?_)
  obtain ⟨rfl, rfl⟩ := hp
  refine v_aload_n C eX12_finish_31 rfl 0 rfl ?_
  refine v_aload_n C eX12_finish_32 rfl 0 rfl ?_
  refine n_get C I fX12_193_X12 eX12_finish_33 (hN 49 (by decide)) rfl rfl ?_
  refine v_iconst (v := (1 : Int32)) C eX12_finish_36 (by decide) ?_
  refine v_isub C eX12_finish_37 ?_
  refine v_natT (show (nI (rateK 12)) - ((1 : Int32)) = nI (136 - 1) from (ix_sub (a := 136) (b := 1) (rfl : nI (rateK 12) = nI 136) (rfl : (1 : Int32) = nI 1) (by omega))) ?_
  refine v_sipush (v := (128 : Int32)) C eX12_finish_38 (by decide) ?_
  refine n_callV (As := [.int (nI (136 - 1)), .int ((128 : Int32))]) (rest := []) C I mX12_202 (c_flip I hN rfl rfl 135 128 (by decide)) (hN 49 (by decide)) rfl rfl (by omega) (by decide) ⟨by decide, by decide⟩ rfl rfl (Nat.le_of_ble_eq_true rfl) eX12_finish_41 (fun r σ' hp => ?_)
  obtain ⟨rfl, rfl⟩ := hp
  refine v_aload_n C eX12_finish_44 rfl 0 rfl ?_
  refine n_callV (As := []) (rest := []) C I mX12_206 (c_permute I hN rfl rfl rfl rfl h11 h12) (hN 49 (by decide)) rfl rfl (by omega) (by decide) ⟨by decide, by decide⟩ rfl rfl (Nat.le_of_ble_eq_true rfl) eX12_finish_45 (fun r σ' hp => ?_)
  obtain ⟨rfl, rfl⟩ := hp
  refine v_aload_n C eX12_finish_48 rfl 0 rfl ?_
  refine v_iconst (v := nI 0) C eX12_finish_49 (by decide) ?_
  refine n_put (fs' := mO ad (upd (upd (upd x 18 (nI 12)) 19 (nI (rateK 12))) 20 (nI 0)) tt) C I fX12_180_X12p eX12_finish_50 (hN 49 (by decide)) rfl rfl rfl (Nat.le_of_ble_eq_true rfl) rfl ?_
  refine v_eq (w' := nW ad N (va_up (va_up (va_up (va_up (va_up (va_up σ 13 (eJ G 25 ((itN (pmR T Rc) 24 (sp1 (sp1 S fl 31) 135 128, O, D)).1))) 14 (eJ G 25 ((itN (pmR T Rc) 24 (sp1 (sp1 S fl 31) 135 128, O, D)).2.1))) 15 (eJ G 5 ((itN (pmR T Rc) 24 (sp1 (sp1 S fl 31) 135 128, O, D)).2.2))) 16 (eJ G 80 W)) 17 (eB G 128 Bk)) 49 (eO 9 (mO ad (upd (upd (upd x 18 (nI 12)) 19 (nI (rateK 12))) 20 (nI 0)) tt)))) (congrArg (nW ad N) (n_extL [13, 14, 15, 16, 17, 49] ⟨rfl, rfl, rfl, rfl, rfl, rfl, trivial⟩ (fun q h => by simp only [List.mem_cons, List.not_mem_nil, or_false, not_or] at h; simp [va_up, h]))) rfl rfl ?_
  exact n_vret C rfl eX12_finish_53 ⟨rfl, rfl⟩

set_option maxRecDepth 100000 in
set_option maxHeartbeats 4000000 in
theorem c_finish1 (I : nI1 ad N) (hN : ∀ k, k < 74 → k < N) {σ : nS} {x T : Nat → Int32} {Rc K : Nat → Int64} (h11 : σ 11 = eI G 25 T) (h12 : σ 12 = eJ G 24 Rc) (h6 : σ 6 = eJ G 80 K) (h : hT) (hf : h.2.2.2.2.2.1 < rateK 1) : nOk G B l ad N yX12_finish cX12_finish 4 none 3 0 0 [.ref (ad 49)] (hσ G ad σ x 1 h) (fun r σ' => r = none ∧ σ' = hσ G ad σ x 1 (hFin T Rc K 1 h)) := by
  refine vOk.of (by decide +kernel) (Nat.le_of_ble_eq_true rfl) ?_
  intro p e s m args below meth c C
  have hk : 1 = 1 ∨ 1 = 3 ∨ 1 = 12 := by decide
  refine v_eq (lv' := [(0, .ref (ad 49))]) rfl rfl rfl ?_
  refine v_aload_n C eX12_finish_0 rfl 0 rfl ?_
  refine n_callV (As := []) (rest := []) C I mX12_198 (c_sponge I hN rfl) (hN 49 (by decide)) rfl rfl (by omega) (by decide) ⟨by decide, by decide⟩ rfl rfl (Nat.le_of_ble_eq_true rfl) eX12_finish_1 (fun r σ' hp => ?_)
  obtain ⟨rfl, rfl⟩ := hp
  refine v_if_eq (tgt := 54) C eX12_finish_4 (by decide) (fun _ => ?_) (fun h => absurd (show (if nI 1 ≤ (6 : Int32) then (0 : Int32) else 1) = 0 from by decide +kernel) h)
  refine v_ldc2 (v := (8 : Int64)) C eX12_finish_54 vw_1173 ?_
  refine v_aload_n C eX12_finish_57 rfl 0 rfl ?_
  refine n_get C I fX12_183_X12 eX12_finish_58 (hN 49 (by decide)) rfl rfl ?_
  refine v_lmul C eX12_finish_61 ?_
  refine v_lstore_n (lv' := [(0, .ref (ad 49)), (1, .long (((8 : Int64)) * h.2.2.2.2.2.2))]) C eX12_finish_62 rfl (by decide) [1, 0] rfl ?_
  refine v_aload_n C eX12_finish_63 rfl 0 rfl ?_
  refine v_sipush (v := (128 : Int32)) C eX12_finish_64 (by decide) ?_
  refine n_callV (As := [.int ((128 : Int32))]) (rest := []) C I mX12_171 (c_put I hN h11 h12 h6 hk h hf 128) (hN 49 (by decide)) rfl rfl (by decide) (by decide) ⟨by decide, by decide⟩ rfl rfl (Nat.le_of_ble_eq_true rfl) eX12_finish_67 (fun r σ' hp => ?_)
  obtain ⟨rfl, rfl⟩ := hp
  have hf1 := hPut_lt (T := T) (Rc := Rc) (K := K) hk 128 h hf
  generalize hg : hPut T Rc K 1 128 h = g at hf1
  have hR : rateK 1 = 64 := rfl
  have hz := fun n => hZero_fill (T := T) (Rc := Rc) (K := K) hk g hf1 n
  refine v_forV (fun i => hσ G ad σ x 1 (hZero T Rc K 1 i g)) (fun _ => [(0, .ref (ad 49)), (1, .long (((8 : Int64)) * h.2.2.2.2.2.2))]) (padZ 1 g.2.2.2.2.2.1) ?_ ?_
  · have hzi := hz (padZ 1 g.2.2.2.2.2.1)
    have hlt : (g.2.2.2.2.2.1 + (padZ 1 g.2.2.2.2.2.1)) % 64 < 64 := Nat.mod_lt _ (by decide)
    have hpz : (g.2.2.2.2.2.1 + (padZ 1 g.2.2.2.2.2.1)) % 64 = 56 := by show (g.2.2.2.2.2.1 + (64 - 64 / 8 + 64 - g.2.2.2.2.2.1) % 64) % 64 = 56; have : g.2.2.2.2.2.1 < 64 := hf1; omega
    rw [hR] at hzi
    refine v_aload_n C eX12_finish_70 rfl 0 rfl ?_
    refine n_get C I fX12_180_X12 eX12_finish_71 (hN 49 (by decide)) rfl rfl ?_
    refine v_aload_n C eX12_finish_74 rfl 0 rfl ?_
    refine n_get C I fX12_193_X12 eX12_finish_75 (hN 49 (by decide)) rfl rfl ?_
    refine v_aload_n C eX12_finish_78 rfl 0 rfl ?_
    refine n_get C I fX12_193_X12 eX12_finish_79 (hN 49 (by decide)) rfl rfl ?_
    refine v_bipush (v := (8 : Int32)) C eX12_finish_82 (by decide) ?_
    refine v_idiv C eX12_finish_84 (by decide) ?_
    refine v_isub C eX12_finish_85 ?_
    refine v_icmp_eq (tgt := 97) C eX12_finish_86 (by decide) (fun _ => ?_) (fun h => absurd (ix_eq (a := (hZero T Rc K 1 (padZ 1 g.2.2.2.2.2.1) g).2.2.2.2.2.1) (b := 64 - (64 / 8)) (rfl : nI (hZero T Rc K 1 (padZ 1 g.2.2.2.2.2.1) g).2.2.2.2.2.1 = nI (hZero T Rc K 1 (padZ 1 g.2.2.2.2.2.1) g).2.2.2.2.2.1) (ix_sub (a := 64) (b := 64 / 8) (rfl : nI (rateK 1) = nI 64) (ix_div (a := 64) (d := 8) (rfl : nI (rateK 1) = nI 64) (rfl : (8 : Int32) = nI 8) (by omega) (by omega) (by omega)) (by omega)) (by omega) (by omega) (by omega)) h)
    have hfz : (hZero T Rc K 1 (padZ 1 g.2.2.2.2.2.1) g).2.2.2.2.2.1 < rateK 1 := by rw [hz]; exact Nat.mod_lt _ (by decide)
    refine v_aload_n C eX12_finish_97 rfl 0 rfl ?_
    refine n_get C I fX12_193_X12 eX12_finish_98 (hN 49 (by decide)) rfl rfl ?_
    refine v_bipush (v := (8 : Int32)) C eX12_finish_101 (by decide) ?_
    refine v_idiv C eX12_finish_103 (by decide) ?_
    refine v_iconst (v := (1 : Int32)) C eX12_finish_104 (by decide) ?_
    refine v_isub C eX12_finish_105 ?_
    refine v_natT (show ((nI (rateK 1)) / ((8 : Int32))) - ((1 : Int32)) = nI ((64 / 8) - 1) from (ix_sub (a := 64 / 8) (b := 1) (ix_div (a := 64) (d := 8) (rfl : nI (rateK 1) = nI 64) (rfl : (8 : Int32) = nI 8) (by omega) (by omega) (by omega)) (rfl : (1 : Int32) = nI 1) (by omega))) ?_
    refine v_eq (st' := [.int (nI (8 - 0) + (-1))]) rfl rfl rfl ?_
    refine v_istore_n (lv' := [(0, .ref (ad 49)), (1, .long (((8 : Int64)) * h.2.2.2.2.2.2)), (3, .int (nI (8 - 0) + (-1)))]) C eX12_finish_106 rfl (by decide) [1, 2, 0] rfl ?_
    generalize hg2 : (hZero T Rc K 1 (padZ 1 g.2.2.2.2.2.1) g) = g2 at hfz ⊢
    refine v_forV (fun j => hσ G ad σ x 1 (hLen T Rc K 1 8 (((8 : Int64)) * h.2.2.2.2.2.2) j g2)) (fun j => [(0, .ref (ad 49)), (1, .long (((8 : Int64)) * h.2.2.2.2.2.2)), (3, .int (nI (8 - j) + (-1)))]) 8 ?_ ?_
    · refine v_iload_n C eX12_finish_107 rfl 2 rfl ?_
      refine v_if_lt (tgt := 138) C eX12_finish_108 (by decide) (fun _ => ?_) (fun h => absurd (by decide) h)
      exact n_vret C rfl eX12_finish_138 ⟨rfl, by rw [← hg2, ← hg, hFin, if_neg (by decide), show rateK 1 / 8 = 8 from rfl]⟩
    · intro j hj ih
      have hm : nI (8 - j) + (-1) = nI (8 - 1 - j) := by rw [show 8 - j = (8 - 1 - j) + 1 by omega]; exact pk_m1 _
      refine v_iload_n C eX12_finish_107 rfl 2 rfl ?_
      refine v_if_lt (tgt := 138) C eX12_finish_108 (by decide) (fun h => absurd h (by rw [hm]; exact nI_pos (by omega))) (fun _ => ?_)
      refine v_aload_n C eX12_finish_111 rfl 0 rfl ?_
      refine v_iload_n C eX12_finish_112 rfl 2 rfl ?_
      refine v_natT hm ?_
      refine v_bipush (v := (8 : Int32)) C eX12_finish_113 (by decide) ?_
      refine v_icmp_ge (tgt := 128) C eX12_finish_115 (by decide) (fun h => absurd h (ix_nle (a := 8) (b := 8 - 1 - j) (rfl : (8 : Int32) = nI 8) (rfl : nI (8 - 1 - j) = nI (8 - 1 - j)) (by omega) (by omega) (by omega))) (fun _ => ?_)
      refine v_lload_n C eX12_finish_118 rfl 1 rfl ?_
      refine v_bipush (v := (8 : Int32)) C eX12_finish_119 (by decide) ?_
      refine v_iload_n C eX12_finish_121 rfl 2 rfl ?_
      refine v_natT hm ?_
      refine v_imul C eX12_finish_122 ?_
      refine v_lushr C eX12_finish_123 ?_
      refine v_l2i C eX12_finish_124 ?_
      refine v_goto (tgt := 129) C eX12_finish_125 (by decide) ?_
      refine v_natT (y := lenB (((8 : Int64)) * h.2.2.2.2.2.2) (8 - 1 - j)) (by rw [lenB, if_pos (by omega)]; rfl) ?_
      refine n_callV (As := [.int (lenB (((8 : Int64)) * h.2.2.2.2.2.2) (8 - 1 - j))]) (rest := []) C I mX12_171 (c_put I hN h11 h12 h6 hk (hLen T Rc K 1 8 (((8 : Int64)) * h.2.2.2.2.2.2) j g2) (hLen_lt hk _ _ g2 hfz j) (lenB (((8 : Int64)) * h.2.2.2.2.2.2) (8 - 1 - j))) (hN 49 (by decide)) rfl rfl (by decide) (by decide) ⟨by decide, by decide⟩ rfl rfl (Nat.le_of_ble_eq_true rfl) eX12_finish_129 (fun r σ' hp => ?_)
      obtain ⟨rfl, rfl⟩ := hp
      refine v_iinc (lv' := [(0, .ref (ad 49)), (1, .long (((8 : Int64)) * h.2.2.2.2.2.2)), (3, .int (nI (8 - (j + 1)) + (-1)))]) C eX12_finish_132 2 rfl (by rw [ix_m1, hm]; exact congrArg (· + (-1 : Int32)) (congrArg nI (by omega : 8 - 1 - j = 8 - (j + 1)))) (by decide) [1, 2, 0] rfl ?_
      refine v_goto (tgt := 107) C eX12_finish_135 (by decide) ?_
      exact ih
  · intro i hi ih
    have hzi := hz i
    have hlt : (g.2.2.2.2.2.1 + i) % 64 < 64 := Nat.mod_lt _ (by decide)
    have hpz : (g.2.2.2.2.2.1 + i) % 64 ≠ 56 := by have h1 : i < (64 - 64 / 8 + 64 - g.2.2.2.2.2.1) % 64 := hi; have : g.2.2.2.2.2.1 < 64 := hf1; omega
    rw [hR] at hzi
    refine v_aload_n C eX12_finish_70 rfl 0 rfl ?_
    refine n_get C I fX12_180_X12 eX12_finish_71 (hN 49 (by decide)) rfl rfl ?_
    refine v_aload_n C eX12_finish_74 rfl 0 rfl ?_
    refine n_get C I fX12_193_X12 eX12_finish_75 (hN 49 (by decide)) rfl rfl ?_
    refine v_aload_n C eX12_finish_78 rfl 0 rfl ?_
    refine n_get C I fX12_193_X12 eX12_finish_79 (hN 49 (by decide)) rfl rfl ?_
    refine v_bipush (v := (8 : Int32)) C eX12_finish_82 (by decide) ?_
    refine v_idiv C eX12_finish_84 (by decide) ?_
    refine v_isub C eX12_finish_85 ?_
    refine v_icmp_eq (tgt := 97) C eX12_finish_86 (by decide) (fun h => absurd h (ix_ne (a := (hZero T Rc K 1 i g).2.2.2.2.2.1) (b := 64 - (64 / 8)) (rfl : nI (hZero T Rc K 1 i g).2.2.2.2.2.1 = nI (hZero T Rc K 1 i g).2.2.2.2.2.1) (ix_sub (a := 64) (b := 64 / 8) (rfl : nI (rateK 1) = nI 64) (ix_div (a := 64) (d := 8) (rfl : nI (rateK 1) = nI 64) (rfl : (8 : Int32) = nI 8) (by omega) (by omega) (by omega)) (by omega)) (by omega) (by omega) (by omega))) (fun _ => ?_)
    refine v_aload_n C eX12_finish_89 rfl 0 rfl ?_
    refine v_iconst (v := (0 : Int32)) C eX12_finish_90 (by decide) ?_
    refine n_callV (As := [.int ((0 : Int32))]) (rest := []) C I mX12_171 (c_put I hN h11 h12 h6 hk (hZero T Rc K 1 i g) (by rw [hz i]; exact Nat.mod_lt _ (by decide)) 0) (hN 49 (by decide)) rfl rfl (by decide) (by decide) ⟨by decide, by decide⟩ rfl rfl (Nat.le_of_ble_eq_true rfl) eX12_finish_91 (fun r σ' hp => ?_)
    obtain ⟨rfl, rfl⟩ := hp
    refine v_goto (tgt := 70) C eX12_finish_94 (by decide) ?_
    exact ih

set_option maxRecDepth 100000 in
set_option maxHeartbeats 4000000 in
theorem c_finish3 (I : nI1 ad N) (hN : ∀ k, k < 74 → k < N) {σ : nS} {x T : Nat → Int32} {Rc K : Nat → Int64} (h11 : σ 11 = eI G 25 T) (h12 : σ 12 = eJ G 24 Rc) (h6 : σ 6 = eJ G 80 K) (h : hT) (hf : h.2.2.2.2.2.1 < rateK 3) : nOk G B l ad N yX12_finish cX12_finish 4 none 3 0 0 [.ref (ad 49)] (hσ G ad σ x 3 h) (fun r σ' => r = none ∧ σ' = hσ G ad σ x 3 (hFin T Rc K 3 h)) := by
  refine vOk.of (by decide +kernel) (Nat.le_of_ble_eq_true rfl) ?_
  intro p e s m args below meth c C
  have hk : 3 = 1 ∨ 3 = 3 ∨ 3 = 12 := by decide
  refine v_eq (lv' := [(0, .ref (ad 49))]) rfl rfl rfl ?_
  refine v_aload_n C eX12_finish_0 rfl 0 rfl ?_
  refine n_callV (As := []) (rest := []) C I mX12_198 (c_sponge I hN rfl) (hN 49 (by decide)) rfl rfl (by omega) (by decide) ⟨by decide, by decide⟩ rfl rfl (Nat.le_of_ble_eq_true rfl) eX12_finish_1 (fun r σ' hp => ?_)
  obtain ⟨rfl, rfl⟩ := hp
  refine v_if_eq (tgt := 54) C eX12_finish_4 (by decide) (fun _ => ?_) (fun h => absurd (show (if nI 3 ≤ (6 : Int32) then (0 : Int32) else 1) = 0 from by decide +kernel) h)
  refine v_ldc2 (v := (8 : Int64)) C eX12_finish_54 vw_1173 ?_
  refine v_aload_n C eX12_finish_57 rfl 0 rfl ?_
  refine n_get C I fX12_183_X12 eX12_finish_58 (hN 49 (by decide)) rfl rfl ?_
  refine v_lmul C eX12_finish_61 ?_
  refine v_lstore_n (lv' := [(0, .ref (ad 49)), (1, .long (((8 : Int64)) * h.2.2.2.2.2.2))]) C eX12_finish_62 rfl (by decide) [1, 0] rfl ?_
  refine v_aload_n C eX12_finish_63 rfl 0 rfl ?_
  refine v_sipush (v := (128 : Int32)) C eX12_finish_64 (by decide) ?_
  refine n_callV (As := [.int ((128 : Int32))]) (rest := []) C I mX12_171 (c_put I hN h11 h12 h6 hk h hf 128) (hN 49 (by decide)) rfl rfl (by decide) (by decide) ⟨by decide, by decide⟩ rfl rfl (Nat.le_of_ble_eq_true rfl) eX12_finish_67 (fun r σ' hp => ?_)
  obtain ⟨rfl, rfl⟩ := hp
  have hf1 := hPut_lt (T := T) (Rc := Rc) (K := K) hk 128 h hf
  generalize hg : hPut T Rc K 3 128 h = g at hf1
  have hR : rateK 3 = 128 := rfl
  have hz := fun n => hZero_fill (T := T) (Rc := Rc) (K := K) hk g hf1 n
  refine v_forV (fun i => hσ G ad σ x 3 (hZero T Rc K 3 i g)) (fun _ => [(0, .ref (ad 49)), (1, .long (((8 : Int64)) * h.2.2.2.2.2.2))]) (padZ 3 g.2.2.2.2.2.1) ?_ ?_
  · have hzi := hz (padZ 3 g.2.2.2.2.2.1)
    have hlt : (g.2.2.2.2.2.1 + (padZ 3 g.2.2.2.2.2.1)) % 128 < 128 := Nat.mod_lt _ (by decide)
    have hpz : (g.2.2.2.2.2.1 + (padZ 3 g.2.2.2.2.2.1)) % 128 = 112 := by show (g.2.2.2.2.2.1 + (128 - 128 / 8 + 128 - g.2.2.2.2.2.1) % 128) % 128 = 112; have : g.2.2.2.2.2.1 < 128 := hf1; omega
    rw [hR] at hzi
    refine v_aload_n C eX12_finish_70 rfl 0 rfl ?_
    refine n_get C I fX12_180_X12 eX12_finish_71 (hN 49 (by decide)) rfl rfl ?_
    refine v_aload_n C eX12_finish_74 rfl 0 rfl ?_
    refine n_get C I fX12_193_X12 eX12_finish_75 (hN 49 (by decide)) rfl rfl ?_
    refine v_aload_n C eX12_finish_78 rfl 0 rfl ?_
    refine n_get C I fX12_193_X12 eX12_finish_79 (hN 49 (by decide)) rfl rfl ?_
    refine v_bipush (v := (8 : Int32)) C eX12_finish_82 (by decide) ?_
    refine v_idiv C eX12_finish_84 (by decide) ?_
    refine v_isub C eX12_finish_85 ?_
    refine v_icmp_eq (tgt := 97) C eX12_finish_86 (by decide) (fun _ => ?_) (fun h => absurd (ix_eq (a := (hZero T Rc K 3 (padZ 3 g.2.2.2.2.2.1) g).2.2.2.2.2.1) (b := 128 - (128 / 8)) (rfl : nI (hZero T Rc K 3 (padZ 3 g.2.2.2.2.2.1) g).2.2.2.2.2.1 = nI (hZero T Rc K 3 (padZ 3 g.2.2.2.2.2.1) g).2.2.2.2.2.1) (ix_sub (a := 128) (b := 128 / 8) (rfl : nI (rateK 3) = nI 128) (ix_div (a := 128) (d := 8) (rfl : nI (rateK 3) = nI 128) (rfl : (8 : Int32) = nI 8) (by omega) (by omega) (by omega)) (by omega)) (by omega) (by omega) (by omega)) h)
    have hfz : (hZero T Rc K 3 (padZ 3 g.2.2.2.2.2.1) g).2.2.2.2.2.1 < rateK 3 := by rw [hz]; exact Nat.mod_lt _ (by decide)
    refine v_aload_n C eX12_finish_97 rfl 0 rfl ?_
    refine n_get C I fX12_193_X12 eX12_finish_98 (hN 49 (by decide)) rfl rfl ?_
    refine v_bipush (v := (8 : Int32)) C eX12_finish_101 (by decide) ?_
    refine v_idiv C eX12_finish_103 (by decide) ?_
    refine v_iconst (v := (1 : Int32)) C eX12_finish_104 (by decide) ?_
    refine v_isub C eX12_finish_105 ?_
    refine v_natT (show ((nI (rateK 3)) / ((8 : Int32))) - ((1 : Int32)) = nI ((128 / 8) - 1) from (ix_sub (a := 128 / 8) (b := 1) (ix_div (a := 128) (d := 8) (rfl : nI (rateK 3) = nI 128) (rfl : (8 : Int32) = nI 8) (by omega) (by omega) (by omega)) (rfl : (1 : Int32) = nI 1) (by omega))) ?_
    refine v_eq (st' := [.int (nI (16 - 0) + (-1))]) rfl rfl rfl ?_
    refine v_istore_n (lv' := [(0, .ref (ad 49)), (1, .long (((8 : Int64)) * h.2.2.2.2.2.2)), (3, .int (nI (16 - 0) + (-1)))]) C eX12_finish_106 rfl (by decide) [1, 2, 0] rfl ?_
    generalize hg2 : (hZero T Rc K 3 (padZ 3 g.2.2.2.2.2.1) g) = g2 at hfz ⊢
    refine v_forV (fun j => hσ G ad σ x 3 (hLen T Rc K 3 16 (((8 : Int64)) * h.2.2.2.2.2.2) j g2)) (fun j => [(0, .ref (ad 49)), (1, .long (((8 : Int64)) * h.2.2.2.2.2.2)), (3, .int (nI (16 - j) + (-1)))]) 16 ?_ ?_
    · refine v_iload_n C eX12_finish_107 rfl 2 rfl ?_
      refine v_if_lt (tgt := 138) C eX12_finish_108 (by decide) (fun _ => ?_) (fun h => absurd (by decide) h)
      exact n_vret C rfl eX12_finish_138 ⟨rfl, by rw [← hg2, ← hg, hFin, if_neg (by decide), show rateK 3 / 8 = 16 from rfl]⟩
    · intro j hj ih
      have hm : nI (16 - j) + (-1) = nI (16 - 1 - j) := by rw [show 16 - j = (16 - 1 - j) + 1 by omega]; exact pk_m1 _
      refine v_iload_n C eX12_finish_107 rfl 2 rfl ?_
      refine v_if_lt (tgt := 138) C eX12_finish_108 (by decide) (fun h => absurd h (by rw [hm]; exact nI_pos (by omega))) (fun _ => ?_)
      refine v_aload_n C eX12_finish_111 rfl 0 rfl ?_
      refine v_iload_n C eX12_finish_112 rfl 2 rfl ?_
      refine v_natT hm ?_
      refine v_bipush (v := (8 : Int32)) C eX12_finish_113 (by decide) ?_
      by_cases hj8 : 8 ≤ 15 - j
      · refine v_icmp_ge (tgt := 128) C eX12_finish_115 (by decide) (fun _ => ?_) (fun h => absurd (ix_le (a := 8) (b := 16 - 1 - j) (rfl : (8 : Int32) = nI 8) (rfl : nI (16 - 1 - j) = nI (16 - 1 - j)) (by omega) (by omega) (by omega)) h)
        refine v_iconst (v := (0 : Int32)) C eX12_finish_128 (by decide) ?_
        refine v_natT (y := lenB (((8 : Int64)) * h.2.2.2.2.2.2) (16 - 1 - j)) (by rw [lenB, if_neg (by omega)]) ?_
        refine n_callV (As := [.int (lenB (((8 : Int64)) * h.2.2.2.2.2.2) (16 - 1 - j))]) (rest := []) C I mX12_171 (c_put I hN h11 h12 h6 hk (hLen T Rc K 3 16 (((8 : Int64)) * h.2.2.2.2.2.2) j g2) (hLen_lt hk _ _ g2 hfz j) (lenB (((8 : Int64)) * h.2.2.2.2.2.2) (16 - 1 - j))) (hN 49 (by decide)) rfl rfl (by decide) (by decide) ⟨by decide, by decide⟩ rfl rfl (Nat.le_of_ble_eq_true rfl) eX12_finish_129 (fun r σ' hp => ?_)
        obtain ⟨rfl, rfl⟩ := hp
        refine v_iinc (lv' := [(0, .ref (ad 49)), (1, .long (((8 : Int64)) * h.2.2.2.2.2.2)), (3, .int (nI (16 - (j + 1)) + (-1)))]) C eX12_finish_132 2 rfl (by rw [ix_m1, hm]; exact congrArg (· + (-1 : Int32)) (congrArg nI (by omega : 16 - 1 - j = 16 - (j + 1)))) (by decide) [1, 2, 0] rfl ?_
        refine v_goto (tgt := 107) C eX12_finish_135 (by decide) ?_
        exact ih
      · refine v_icmp_ge (tgt := 128) C eX12_finish_115 (by decide) (fun h => absurd h (ix_nle (a := 8) (b := 16 - 1 - j) (rfl : (8 : Int32) = nI 8) (rfl : nI (16 - 1 - j) = nI (16 - 1 - j)) (by omega) (by omega) (by omega))) (fun _ => ?_)
        refine v_lload_n C eX12_finish_118 rfl 1 rfl ?_
        refine v_bipush (v := (8 : Int32)) C eX12_finish_119 (by decide) ?_
        refine v_iload_n C eX12_finish_121 rfl 2 rfl ?_
        refine v_natT hm ?_
        refine v_imul C eX12_finish_122 ?_
        refine v_lushr C eX12_finish_123 ?_
        refine v_l2i C eX12_finish_124 ?_
        refine v_goto (tgt := 129) C eX12_finish_125 (by decide) ?_
        refine v_natT (y := lenB (((8 : Int64)) * h.2.2.2.2.2.2) (16 - 1 - j)) (by rw [lenB, if_pos (by omega)]; rfl) ?_
        refine n_callV (As := [.int (lenB (((8 : Int64)) * h.2.2.2.2.2.2) (16 - 1 - j))]) (rest := []) C I mX12_171 (c_put I hN h11 h12 h6 hk (hLen T Rc K 3 16 (((8 : Int64)) * h.2.2.2.2.2.2) j g2) (hLen_lt hk _ _ g2 hfz j) (lenB (((8 : Int64)) * h.2.2.2.2.2.2) (16 - 1 - j))) (hN 49 (by decide)) rfl rfl (by decide) (by decide) ⟨by decide, by decide⟩ rfl rfl (Nat.le_of_ble_eq_true rfl) eX12_finish_129 (fun r σ' hp => ?_)
        obtain ⟨rfl, rfl⟩ := hp
        refine v_iinc (lv' := [(0, .ref (ad 49)), (1, .long (((8 : Int64)) * h.2.2.2.2.2.2)), (3, .int (nI (16 - (j + 1)) + (-1)))]) C eX12_finish_132 2 rfl (by rw [ix_m1, hm]; exact congrArg (· + (-1 : Int32)) (congrArg nI (by omega : 16 - 1 - j = 16 - (j + 1)))) (by decide) [1, 2, 0] rfl ?_
        refine v_goto (tgt := 107) C eX12_finish_135 (by decide) ?_
        exact ih
  · intro i hi ih
    have hzi := hz i
    have hlt : (g.2.2.2.2.2.1 + i) % 128 < 128 := Nat.mod_lt _ (by decide)
    have hpz : (g.2.2.2.2.2.1 + i) % 128 ≠ 112 := by have h1 : i < (128 - 128 / 8 + 128 - g.2.2.2.2.2.1) % 128 := hi; have : g.2.2.2.2.2.1 < 128 := hf1; omega
    rw [hR] at hzi
    refine v_aload_n C eX12_finish_70 rfl 0 rfl ?_
    refine n_get C I fX12_180_X12 eX12_finish_71 (hN 49 (by decide)) rfl rfl ?_
    refine v_aload_n C eX12_finish_74 rfl 0 rfl ?_
    refine n_get C I fX12_193_X12 eX12_finish_75 (hN 49 (by decide)) rfl rfl ?_
    refine v_aload_n C eX12_finish_78 rfl 0 rfl ?_
    refine n_get C I fX12_193_X12 eX12_finish_79 (hN 49 (by decide)) rfl rfl ?_
    refine v_bipush (v := (8 : Int32)) C eX12_finish_82 (by decide) ?_
    refine v_idiv C eX12_finish_84 (by decide) ?_
    refine v_isub C eX12_finish_85 ?_
    refine v_icmp_eq (tgt := 97) C eX12_finish_86 (by decide) (fun h => absurd h (ix_ne (a := (hZero T Rc K 3 i g).2.2.2.2.2.1) (b := 128 - (128 / 8)) (rfl : nI (hZero T Rc K 3 i g).2.2.2.2.2.1 = nI (hZero T Rc K 3 i g).2.2.2.2.2.1) (ix_sub (a := 128) (b := 128 / 8) (rfl : nI (rateK 3) = nI 128) (ix_div (a := 128) (d := 8) (rfl : nI (rateK 3) = nI 128) (rfl : (8 : Int32) = nI 8) (by omega) (by omega) (by omega)) (by omega)) (by omega) (by omega) (by omega))) (fun _ => ?_)
    refine v_aload_n C eX12_finish_89 rfl 0 rfl ?_
    refine v_iconst (v := (0 : Int32)) C eX12_finish_90 (by decide) ?_
    refine n_callV (As := [.int ((0 : Int32))]) (rest := []) C I mX12_171 (c_put I hN h11 h12 h6 hk (hZero T Rc K 3 i g) (by rw [hz i]; exact Nat.mod_lt _ (by decide)) 0) (hN 49 (by decide)) rfl rfl (by decide) (by decide) ⟨by decide, by decide⟩ rfl rfl (Nat.le_of_ble_eq_true rfl) eX12_finish_91 (fun r σ' hp => ?_)
    obtain ⟨rfl, rfl⟩ := hp
    refine v_goto (tgt := 70) C eX12_finish_94 (by decide) ?_
    exact ih

end M6
end
section
theorem eX12_squeeze_0 : vD cX12_squeeze 0 (.aload_n 0) 1 1 := ⟨by decide +kernel, rfl⟩
theorem eX12_squeeze_1 : vD cX12_squeeze 1 (.getfield 180) 3 4 := ⟨by decide +kernel, rfl⟩
theorem eX12_squeeze_4 : vD cX12_squeeze 4 (.aload_n 0) 1 5 := ⟨by decide +kernel, rfl⟩
theorem eX12_squeeze_5 : vD cX12_squeeze 5 (.getfield 193) 3 8 := ⟨by decide +kernel, rfl⟩
theorem eX12_squeeze_8 : vD cX12_squeeze 8 (.if_icmp .ne 12) 3 11 := ⟨by decide +kernel, rfl⟩
theorem eX12_squeeze_11 : vD cX12_squeeze 11 (.aload_n 0) 1 12 := ⟨by decide +kernel, rfl⟩
theorem eX12_squeeze_12 : vD cX12_squeeze 12 (.invokevirtual 206) 3 15 := ⟨by decide +kernel, rfl⟩
theorem eX12_squeeze_15 : vD cX12_squeeze 15 (.aload_n 0) 1 16 := ⟨by decide +kernel, rfl⟩
theorem eX12_squeeze_16 : vD cX12_squeeze 16 (.iconst 0) 1 17 := ⟨by decide +kernel, rfl⟩
theorem eX12_squeeze_17 : vD cX12_squeeze 17 (.putfield 180) 3 20 := ⟨by decide +kernel, rfl⟩
theorem eX12_squeeze_20 : vD cX12_squeeze 20 (.aload_n 0) 1 21 := ⟨by decide +kernel, rfl⟩
theorem eX12_squeeze_21 : vD cX12_squeeze 21 (.getfield 48) 3 24 := ⟨by decide +kernel, rfl⟩
theorem eX12_squeeze_24 : vD cX12_squeeze 24 (.aload_n 0) 1 25 := ⟨by decide +kernel, rfl⟩
theorem eX12_squeeze_25 : vD cX12_squeeze 25 (.getfield 180) 3 28 := ⟨by decide +kernel, rfl⟩
theorem eX12_squeeze_28 : vD cX12_squeeze 28 (.bipush 8) 2 30 := ⟨by decide +kernel, rfl⟩
theorem eX12_squeeze_30 : vD cX12_squeeze 30 .idiv 1 31 := ⟨by decide +kernel, rfl⟩
theorem eX12_squeeze_31 : vD cX12_squeeze 31 .laload 1 32 := ⟨by decide +kernel, rfl⟩
theorem eX12_squeeze_32 : vD cX12_squeeze 32 (.bipush 8) 2 34 := ⟨by decide +kernel, rfl⟩
theorem eX12_squeeze_34 : vD cX12_squeeze 34 (.aload_n 0) 1 35 := ⟨by decide +kernel, rfl⟩
theorem eX12_squeeze_35 : vD cX12_squeeze 35 (.getfield 180) 3 38 := ⟨by decide +kernel, rfl⟩
theorem eX12_squeeze_38 : vD cX12_squeeze 38 (.bipush 8) 2 40 := ⟨by decide +kernel, rfl⟩
theorem eX12_squeeze_40 : vD cX12_squeeze 40 .irem 1 41 := ⟨by decide +kernel, rfl⟩
theorem eX12_squeeze_41 : vD cX12_squeeze 41 .imul 1 42 := ⟨by decide +kernel, rfl⟩
theorem eX12_squeeze_42 : vD cX12_squeeze 42 .lushr 1 43 := ⟨by decide +kernel, rfl⟩
theorem eX12_squeeze_43 : vD cX12_squeeze 43 .l2i 1 44 := ⟨by decide +kernel, rfl⟩
theorem eX12_squeeze_44 : vD cX12_squeeze 44 (.sipush 255) 3 47 := ⟨by decide +kernel, rfl⟩
theorem eX12_squeeze_47 : vD cX12_squeeze 47 .iand 1 48 := ⟨by decide +kernel, rfl⟩
theorem eX12_squeeze_48 : vD cX12_squeeze 48 (.istore_n 1) 1 49 := ⟨by decide +kernel, rfl⟩
theorem eX12_squeeze_49 : vD cX12_squeeze 49 (.aload_n 0) 1 50 := ⟨by decide +kernel, rfl⟩
theorem eX12_squeeze_50 : vD cX12_squeeze 50 .dup 1 51 := ⟨by decide +kernel, rfl⟩
theorem eX12_squeeze_51 : vD cX12_squeeze 51 (.getfield 180) 3 54 := ⟨by decide +kernel, rfl⟩
theorem eX12_squeeze_54 : vD cX12_squeeze 54 (.iconst 1) 1 55 := ⟨by decide +kernel, rfl⟩
theorem eX12_squeeze_55 : vD cX12_squeeze 55 .iadd 1 56 := ⟨by decide +kernel, rfl⟩
theorem eX12_squeeze_56 : vD cX12_squeeze 56 (.putfield 180) 3 59 := ⟨by decide +kernel, rfl⟩
theorem eX12_squeeze_59 : vD cX12_squeeze 59 (.iload_n 1) 1 60 := ⟨by decide +kernel, rfl⟩
theorem eX12_squeeze_60 : vD cX12_squeeze 60 .ireturn 1 61 := ⟨by decide +kernel, rfl⟩
theorem eX12_give_0 : vD cX12_give 0 (.aload_n 0) 1 1 := ⟨by decide +kernel, rfl⟩
theorem eX12_give_1 : vD cX12_give 1 (.invokevirtual 174) 3 4 := ⟨by decide +kernel, rfl⟩
theorem eX12_give_4 : vD cX12_give 4 (.iconst 0) 1 5 := ⟨by decide +kernel, rfl⟩
theorem eX12_give_5 : vD cX12_give 5 (.istore 4) 2 7 := ⟨by decide +kernel, rfl⟩
theorem eX12_give_7 : vD cX12_give 7 (.iload 4) 2 9 := ⟨by decide +kernel, rfl⟩
theorem eX12_give_9 : vD cX12_give 9 (.iload_n 3) 1 10 := ⟨by decide +kernel, rfl⟩
theorem eX12_give_10 : vD cX12_give 10 (.if_icmp .ge 92) 3 13 := ⟨by decide +kernel, rfl⟩
theorem eX12_give_13 : vD cX12_give 13 (.aload_n 0) 1 14 := ⟨by decide +kernel, rfl⟩
theorem eX12_give_14 : vD cX12_give 14 (.invokevirtual 198) 3 17 := ⟨by decide +kernel, rfl⟩
theorem eX12_give_17 : vD cX12_give 17 (.ifCond .eq 17) 3 20 := ⟨by decide +kernel, rfl⟩
theorem eX12_give_20 : vD cX12_give 20 (.aload_n 1) 1 21 := ⟨by decide +kernel, rfl⟩
theorem eX12_give_21 : vD cX12_give 21 (.iload_n 2) 1 22 := ⟨by decide +kernel, rfl⟩
theorem eX12_give_22 : vD cX12_give 22 (.iload 4) 2 24 := ⟨by decide +kernel, rfl⟩
theorem eX12_give_24 : vD cX12_give 24 .iadd 1 25 := ⟨by decide +kernel, rfl⟩
theorem eX12_give_25 : vD cX12_give 25 (.aload_n 0) 1 26 := ⟨by decide +kernel, rfl⟩
theorem eX12_give_26 : vD cX12_give 26 (.invokevirtual 229) 3 29 := ⟨by decide +kernel, rfl⟩
theorem eX12_give_29 : vD cX12_give 29 .i2b 1 30 := ⟨by decide +kernel, rfl⟩
theorem eX12_give_30 : vD cX12_give 30 .bastore 1 31 := ⟨by decide +kernel, rfl⟩
theorem eX12_give_31 : vD cX12_give 31 (.goto 65) 3 34 := ⟨by decide +kernel, rfl⟩
theorem eX12_give_34 : vD cX12_give 34 (.aload_n 1) 1 35 := ⟨by decide +kernel, rfl⟩
theorem eX12_give_35 : vD cX12_give 35 (.iload_n 2) 1 36 := ⟨by decide +kernel, rfl⟩
theorem eX12_give_36 : vD cX12_give 36 (.iload 4) 2 38 := ⟨by decide +kernel, rfl⟩
theorem eX12_give_38 : vD cX12_give 38 .iadd 1 39 := ⟨by decide +kernel, rfl⟩
theorem eX12_give_39 : vD cX12_give 39 (.aload_n 0) 1 40 := ⟨by decide +kernel, rfl⟩
theorem eX12_give_40 : vD cX12_give 40 (.getfield 193) 3 43 := ⟨by decide +kernel, rfl⟩
theorem eX12_give_43 : vD cX12_give 43 (.bipush 64) 2 45 := ⟨by decide +kernel, rfl⟩
theorem eX12_give_45 : vD cX12_give 45 (.if_icmp .ne 26) 3 48 := ⟨by decide +kernel, rfl⟩
theorem eX12_give_48 : vD cX12_give 48 (.aload_n 0) 1 49 := ⟨by decide +kernel, rfl⟩
theorem eX12_give_49 : vD cX12_give 49 (.getfield 48) 3 52 := ⟨by decide +kernel, rfl⟩
theorem eX12_give_52 : vD cX12_give 52 (.iload 4) 2 54 := ⟨by decide +kernel, rfl⟩
theorem eX12_give_54 : vD cX12_give 54 (.iconst 4) 1 55 := ⟨by decide +kernel, rfl⟩
theorem eX12_give_55 : vD cX12_give 55 .idiv 1 56 := ⟨by decide +kernel, rfl⟩
theorem eX12_give_56 : vD cX12_give 56 .laload 1 57 := ⟨by decide +kernel, rfl⟩
theorem eX12_give_57 : vD cX12_give 57 (.bipush 24) 2 59 := ⟨by decide +kernel, rfl⟩
theorem eX12_give_59 : vD cX12_give 59 (.bipush 8) 2 61 := ⟨by decide +kernel, rfl⟩
theorem eX12_give_61 : vD cX12_give 61 (.iload 4) 2 63 := ⟨by decide +kernel, rfl⟩
theorem eX12_give_63 : vD cX12_give 63 (.iconst 4) 1 64 := ⟨by decide +kernel, rfl⟩
theorem eX12_give_64 : vD cX12_give 64 .irem 1 65 := ⟨by decide +kernel, rfl⟩
theorem eX12_give_65 : vD cX12_give 65 .imul 1 66 := ⟨by decide +kernel, rfl⟩
theorem eX12_give_66 : vD cX12_give 66 .isub 1 67 := ⟨by decide +kernel, rfl⟩
theorem eX12_give_67 : vD cX12_give 67 .lushr 1 68 := ⟨by decide +kernel, rfl⟩
theorem eX12_give_68 : vD cX12_give 68 (.goto 25) 3 71 := ⟨by decide +kernel, rfl⟩
theorem eX12_give_71 : vD cX12_give 71 (.aload_n 0) 1 72 := ⟨by decide +kernel, rfl⟩
theorem eX12_give_72 : vD cX12_give 72 (.getfield 48) 3 75 := ⟨by decide +kernel, rfl⟩
theorem eX12_give_75 : vD cX12_give 75 (.iload 4) 2 77 := ⟨by decide +kernel, rfl⟩
theorem eX12_give_77 : vD cX12_give 77 (.bipush 8) 2 79 := ⟨by decide +kernel, rfl⟩
theorem eX12_give_79 : vD cX12_give 79 .idiv 1 80 := ⟨by decide +kernel, rfl⟩
theorem eX12_give_80 : vD cX12_give 80 .laload 1 81 := ⟨by decide +kernel, rfl⟩
theorem eX12_give_81 : vD cX12_give 81 (.bipush 56) 2 83 := ⟨by decide +kernel, rfl⟩
theorem eX12_give_83 : vD cX12_give 83 (.bipush 8) 2 85 := ⟨by decide +kernel, rfl⟩
theorem eX12_give_85 : vD cX12_give 85 (.iload 4) 2 87 := ⟨by decide +kernel, rfl⟩
theorem eX12_give_87 : vD cX12_give 87 (.bipush 8) 2 89 := ⟨by decide +kernel, rfl⟩
theorem eX12_give_89 : vD cX12_give 89 .irem 1 90 := ⟨by decide +kernel, rfl⟩
theorem eX12_give_90 : vD cX12_give 90 .imul 1 91 := ⟨by decide +kernel, rfl⟩
theorem eX12_give_91 : vD cX12_give 91 .isub 1 92 := ⟨by decide +kernel, rfl⟩
theorem eX12_give_92 : vD cX12_give 92 .lushr 1 93 := ⟨by decide +kernel, rfl⟩
theorem eX12_give_93 : vD cX12_give 93 .l2i 1 94 := ⟨by decide +kernel, rfl⟩
theorem eX12_give_94 : vD cX12_give 94 .i2b 1 95 := ⟨by decide +kernel, rfl⟩
theorem eX12_give_95 : vD cX12_give 95 .bastore 1 96 := ⟨by decide +kernel, rfl⟩
theorem eX12_give_96 : vD cX12_give 96 (.iinc 4 1) 3 99 := ⟨by decide +kernel, rfl⟩
theorem eX12_give_99 : vD cX12_give 99 (.goto (-92)) 3 102 := ⟨by decide +kernel, rfl⟩
theorem eX12_give_102 : vD cX12_give 102 .return_ 1 103 := ⟨by decide +kernel, rfl⟩

def sqB (S : Nat → Int64) (f : Nat) : Int32 := (us64 (S (f / 8)) (nI (8 * (f % 8)))).toInt32 &&& 255
/-- the byte i of a result, as it is cast -/
def gvB (k : Nat) (S : Nat → Int64) (i : Nat) : Int32 := if k = 12 then sqB S i else if k = 1 then (us64 (S (i / 4)) (nI (24 - 8 * (i % 4)))).toInt32 else (us64 (S (i / 8)) (nI (56 - 8 * (i % 8)))).toInt32
def gvF (k : Nat) (S : Nat → Int64) (a n : Nat) (f : Nat → Int32) : Nat → Int32 := itN (fun i f => upd f (a + i) (vp_nar .byte (gvB k S i).toInt8.toInt32)) n f
theorem hσ_up {G : vG} {ad : Nat → Nat} {σ : nS} {x : Nat → Int32} {k : Nat} {h : hT} {q : Nat} {e : va_E} (hq : q ∉ [13, 14, 15, 16, 17, 49]) : va_up (hσ G ad σ x k h) q e = hσ G ad (va_up σ q e) x k h := by
  simp only [List.mem_cons, List.not_mem_nil, or_false, not_or] at hq
  funext j
  by_cases g : j = q
  · subst g
    rw [hσ_ne (by simp [hq])]
    simp [va_up]
  · simp only [hσ, va_up, if_neg g]
section M7
variable {G : vG} {B : Nat} {l : Launch} {ad : Nat → Nat} {N : Nat}
set_option maxRecDepth 100000 in
set_option maxHeartbeats 4000000 in
theorem c_squeeze (I : nI1 ad N) (hN : ∀ k, k < 74 → k < N) {σ : nS} {x T : Nat → Int32} {Rc K : Nat → Int64} (h11 : σ 11 = eI G 25 T) (h12 : σ 12 = eJ G 24 Rc) (h6 : σ 6 = eJ G 80 K) (S O D W : Nat → Int64) (Bk : Nat → Int32) (fl : Nat) (tt : Int64) (hf : fl < 136) : nOk G B l ad N yX12_squeeze cX12_squeeze 2 (some .int) 2 0 0 [.ref (ad 49)] (hσ G ad σ x 12 (S, O, D, W, Bk, fl, tt)) (fun r σ' => r = some (.int (sqB S fl)) ∧ σ' = hσ G ad σ x 12 (S, O, D, W, Bk, fl + 1, tt)) := by
  refine vOk.of (by decide +kernel) (Nat.le_of_ble_eq_true rfl) ?_
  intro p e s m args below meth c C
  refine v_eq (lv' := [(0, .ref (ad 49))]) rfl rfl rfl ?_
  refine v_eq (w' := nW ad N (va_up (va_up (va_up (va_up (va_up (va_up σ 13 (eJ G 25 S)) 14 (eJ G 25 O)) 15 (eJ G 5 D)) 16 (eJ G 80 W)) 17 (eB G 128 Bk)) 49 (eO 9 (mO ad (upd (upd (upd x 18 (nI 12)) 19 (nI (rateK 12))) 20 (nI fl)) tt)))) rfl rfl rfl ?_
  refine v_aload_n C eX12_squeeze_0 rfl 0 rfl ?_
  refine n_get C I fX12_180_X12 eX12_squeeze_1 (hN 49 (by decide)) rfl rfl ?_
  refine v_aload_n C eX12_squeeze_4 rfl 0 rfl ?_
  refine n_get C I fX12_193_X12 eX12_squeeze_5 (hN 49 (by decide)) rfl rfl ?_
  refine v_icmp_ne (tgt := 20) C eX12_squeeze_8 (by decide) (fun _ => ?_) (fun h => absurd h (ix_ne (a := fl) (b := 136) (rfl : nI fl = nI fl) (rfl : nI (rateK 12) = nI 136) (by omega) (by omega) (by omega)))
  refine v_aload_n C eX12_squeeze_20 rfl 0 rfl ?_
  refine n_get C I fX12_48_X12 eX12_squeeze_21 (hN 49 (by decide)) rfl rfl ?_
  refine v_aload_n C eX12_squeeze_24 rfl 0 rfl ?_
  refine n_get C I fX12_180_X12 eX12_squeeze_25 (hN 49 (by decide)) rfl rfl ?_
  refine v_bipush (v := (8 : Int32)) C eX12_squeeze_28 (by decide) ?_
  refine v_idiv C eX12_squeeze_30 (by decide) ?_
  refine n_lald C I eX12_squeeze_31 (hN 13 (by decide)) rfl (fl / 8) (ix_div (a := fl) (d := 8) (rfl : nI fl = nI fl) (rfl : (8 : Int32) = nI 8) (by omega) (by omega) (by omega)) (by omega) (by decide) ?_
  refine v_bipush (v := (8 : Int32)) C eX12_squeeze_32 (by decide) ?_
  refine v_aload_n C eX12_squeeze_34 rfl 0 rfl ?_
  refine n_get C I fX12_180_X12 eX12_squeeze_35 (hN 49 (by decide)) rfl rfl ?_
  refine v_bipush (v := (8 : Int32)) C eX12_squeeze_38 (by decide) ?_
  refine v_irem C eX12_squeeze_40 (by decide) ?_
  refine v_imul C eX12_squeeze_41 ?_
  refine v_natT (show ((8 : Int32)) * ((nI fl) - (nI fl) / ((8 : Int32)) * ((8 : Int32))) = nI (8 * (fl % 8)) from (ix_mul (a := 8) (b := fl % 8) (rfl : (8 : Int32) = nI 8) (ix_rem (a := fl) (d := 8) (rfl : nI fl = nI fl) (rfl : (8 : Int32) = nI 8) (by omega) (by omega) (by omega)))) ?_
  refine v_lushr C eX12_squeeze_42 ?_
  refine v_l2i C eX12_squeeze_43 ?_
  refine v_sipush (v := (255 : Int32)) C eX12_squeeze_44 (by decide) ?_
  refine v_iand C eX12_squeeze_47 ?_
  refine v_istore_n (lv' := [(0, .ref (ad 49)), (1, .int (((((S (fl / 8)).toUInt64 >>> ((nI (8 * (fl % 8))).toInt64.toUInt64 &&& Int64.toUInt64 63)).toInt64).toInt32) &&& ((255 : Int32))))]) C eX12_squeeze_48 rfl (by decide) [1, 0] rfl ?_
  refine v_aload_n C eX12_squeeze_49 rfl 0 rfl ?_
  refine v_dup C eX12_squeeze_50 rfl ?_
  refine n_get C I fX12_180_X12 eX12_squeeze_51 (hN 49 (by decide)) rfl rfl ?_
  refine v_iconst (v := (1 : Int32)) C eX12_squeeze_54 (by decide) ?_
  refine v_iadd C eX12_squeeze_55 ?_
  refine v_natT (show (nI fl) + ((1 : Int32)) = nI (fl + 1) from (ix_add (a := fl) (b := 1) (rfl : nI fl = nI fl) (rfl : (1 : Int32) = nI 1))) ?_
  refine n_put (fs' := mO ad (upd (upd (upd x 18 (nI 12)) 19 (nI (rateK 12))) 20 (nI (fl + 1))) tt) C I fX12_180_X12p eX12_squeeze_56 (hN 49 (by decide)) rfl rfl rfl (Nat.le_of_ble_eq_true rfl) rfl ?_
  refine v_iload_n C eX12_squeeze_59 rfl 1 rfl ?_
  refine v_eq (w' := nW ad N (va_up (va_up (va_up (va_up (va_up (va_up σ 13 (eJ G 25 S)) 14 (eJ G 25 O)) 15 (eJ G 5 D)) 16 (eJ G 80 W)) 17 (eB G 128 Bk)) 49 (eO 9 (mO ad (upd (upd (upd x 18 (nI 12)) 19 (nI (rateK 12))) 20 (nI (fl + 1))) tt)))) (congrArg (nW ad N) (n_extL [13, 14, 15, 16, 17, 49] ⟨rfl, rfl, rfl, rfl, rfl, rfl, trivial⟩ (fun q h => by simp only [List.mem_cons, List.not_mem_nil, or_false, not_or] at h; simp [va_up, h]))) rfl rfl ?_
  exact n_iret C rfl eX12_squeeze_60 ⟨rfl, rfl⟩

set_option maxRecDepth 100000 in
set_option maxHeartbeats 4000000 in
theorem c_give1 (I : nI1 ad N) (hN : ∀ k, k < 74 → k < N) {σ : nS} {x T : Nat → Int32} {Rc K : Nat → Int64} (h11 : σ 11 = eI G 25 T) (h12 : σ 12 = eJ G 24 Rc) (h6 : σ 6 = eJ G 80 K) (h : hT) (hf : h.2.2.2.2.2.1 < rateK 1) {ko no : Nat} {fo : Nat → Int32} (hkN : ko < N) (hko : ko ∉ [13, 14, 15, 16, 17, 49]) (hk2 : ko ∉ [6, 11, 12]) (ho : σ ko = eB G no fo) (a n : Nat) (hn : n ≤ 32) (han : a + n ≤ no) (hno : no < 2 ^ 31) : nOk G B l ad N yX12_give cX12_give 5 none 4 0 0 [.ref (ad 49), .ref (ad ko), .int (nI a), .int (nI n)] (hσ G ad σ x 1 h) (fun r σ' => r = none ∧ σ' = hσ G ad (va_up σ ko (eB G no (gvF 1 (hFin T Rc K 1 h).1 a n fo))) x 1 (hFin T Rc K 1 h)) := by
  refine vOk.of (by decide +kernel) (Nat.le_of_ble_eq_true rfl) ?_
  intro p e s m args below meth c C
  have hk : 1 = 1 ∨ 1 = 3 ∨ 1 = 12 := by decide
  refine v_eq (lv' := [(0, .ref (ad 49)), (1, .ref (ad ko)), (2, .int (nI a)), (3, .int (nI n))]) rfl rfl rfl ?_
  refine v_aload_n C eX12_give_0 rfl 0 rfl ?_
  refine n_callV (As := []) (rest := []) C I mX12_174 (c_finish1 I hN h11 h12 h6 h hf) (hN 49 (by decide)) rfl rfl (by decide) (by decide) ⟨by decide, by decide⟩ rfl rfl (Nat.le_of_ble_eq_true rfl) eX12_give_1 (fun r σ' hp => ?_)
  obtain ⟨rfl, rfl⟩ := hp
  generalize hFin T Rc K 1 h = g
  refine v_eq (w' := nW ad N (hσ G ad (va_up σ ko (eB G no (gvF 1 g.1 a 0 fo))) x 1 g)) (by rw [show gvF 1 g.1 a 0 fo = fo from rfl, n_id ho]) rfl rfl ?_
  refine v_iconst (v := (0 : Int32)) C eX12_give_4 (by decide) ?_
  refine v_istore (lv' := [(0, .ref (ad 49)), (1, .ref (ad ko)), (2, .int (nI a)), (3, .int (nI n)), (4, .int ((0 : Int32)))]) C eX12_give_5 (by decide) [1, 2, 3, 4, 0] rfl ?_
  refine v_forV (fun i => hσ G ad (va_up σ ko (eB G no (gvF 1 g.1 a i fo))) x 1 g) (fun i => [(0, .ref (ad 49)), (1, .ref (ad ko)), (2, .int (nI a)), (3, .int (nI n)), (4, .int (nI i))]) n ?_ ?_
  · refine v_iload C eX12_give_7 4 rfl ?_
    refine v_iload_n C eX12_give_9 rfl 3 rfl ?_
    refine v_icmp_ge (tgt := 102) C eX12_give_10 (by decide) (fun _ => ?_) (fun h => absurd (ix_le (a := n) (b := n) (rfl : nI n = nI n) (rfl : nI n = nI n) (by omega) (by omega) (by omega)) h)
    exact n_vret C rfl eX12_give_102 ⟨rfl, rfl⟩
  · intro i hi ih
    refine v_iload C eX12_give_7 4 rfl ?_
    refine v_iload_n C eX12_give_9 rfl 3 rfl ?_
    refine v_icmp_ge (tgt := 102) C eX12_give_10 (by decide) (fun h => absurd h (ix_nle (a := n) (b := i) (rfl : nI n = nI n) (rfl : nI i = nI i) (by omega) (by omega) (by omega))) (fun _ => ?_)
    have hob : (hσ G ad (va_up σ ko (eB G no (gvF 1 g.1 a i fo))) x 1 g) ko = eB G no (gvF 1 g.1 a i fo) := (hσ_ne hko).trans n_self
    refine v_aload_n C eX12_give_13 rfl 0 rfl ?_
    refine n_callV (As := []) (rest := []) C I mX12_198 (c_sponge I hN rfl) (hN 49 (by decide)) rfl rfl (by omega) (by decide) ⟨by decide, by decide⟩ rfl rfl (Nat.le_of_ble_eq_true rfl) eX12_give_14 (fun r σ' hp => ?_)
    obtain ⟨rfl, rfl⟩ := hp
    refine v_if_eq (tgt := 34) C eX12_give_17 (by decide) (fun _ => ?_) (fun h => absurd (show (if nI 1 ≤ (6 : Int32) then (0 : Int32) else 1) = 0 from by decide +kernel) h)
    refine v_aload_n C eX12_give_34 rfl 1 rfl ?_
    refine v_iload_n C eX12_give_35 rfl 2 rfl ?_
    refine v_iload C eX12_give_36 4 rfl ?_
    refine v_iadd C eX12_give_38 ?_
    refine v_aload_n C eX12_give_39 rfl 0 rfl ?_
    refine n_get C I fX12_193_X12 eX12_give_40 (hN 49 (by decide)) rfl rfl ?_
    refine v_bipush (v := (64 : Int32)) C eX12_give_43 (by decide) ?_
    refine v_icmp_ne (tgt := 71) C eX12_give_45 (by decide) (fun h => absurd (ix_eq (a := 64) (b := 64) (rfl : nI (rateK 1) = nI 64) (rfl : (64 : Int32) = nI 64) (by omega) (by omega) (by omega)) h) (fun _ => ?_)
    refine v_aload_n C eX12_give_48 rfl 0 rfl ?_
    refine n_get C I fX12_48_X12 eX12_give_49 (hN 49 (by decide)) rfl rfl ?_
    refine v_iload C eX12_give_52 4 rfl ?_
    refine v_iconst (v := (4 : Int32)) C eX12_give_54 (by decide) ?_
    refine v_idiv C eX12_give_55 (by decide) ?_
    refine n_lald C I eX12_give_56 (hN 13 (by decide)) rfl (i / 4) (ix_div (a := i) (d := 4) (rfl : nI i = nI i) (rfl : (4 : Int32) = nI 4) (by omega) (by omega) (by omega)) (by omega) (by decide) ?_
    refine v_bipush (v := (24 : Int32)) C eX12_give_57 (by decide) ?_
    refine v_bipush (v := (8 : Int32)) C eX12_give_59 (by decide) ?_
    refine v_iload C eX12_give_61 4 rfl ?_
    refine v_iconst (v := (4 : Int32)) C eX12_give_63 (by decide) ?_
    refine v_irem C eX12_give_64 (by decide) ?_
    refine v_imul C eX12_give_65 ?_
    refine v_isub C eX12_give_66 ?_
    refine v_natT (show ((24 : Int32)) - (((8 : Int32)) * ((nI i) - (nI i) / ((4 : Int32)) * ((4 : Int32)))) = nI (24 - (8 * (i % 4))) from (ix_sub (a := 24) (b := 8 * (i % 4)) (rfl : (24 : Int32) = nI 24) (ix_mul (a := 8) (b := i % 4) (rfl : (8 : Int32) = nI 8) (ix_rem (a := i) (d := 4) (rfl : nI i = nI i) (rfl : (4 : Int32) = nI 4) (by omega) (by omega) (by omega))) (by omega))) ?_
    refine v_lushr C eX12_give_67 ?_
    refine v_goto (tgt := 93) C eX12_give_68 (by decide) ?_
    refine v_l2i C eX12_give_93 ?_
    refine v_i2b C eX12_give_94 ?_
    refine n_bast C I eX12_give_95 hkN hob (a + i) (ix_add (a := a) (b := i) (rfl : nI a = nI a) (rfl : nI i = nI i)) (by omega) (by omega) ?_
    refine v_eq (w' := nW ad N (hσ G ad (va_up σ ko (eB G no (gvF 1 g.1 a (i + 1) fo))) x 1 g)) (congrArg (nW ad N) (by rw [hσ_up hko, bx_uu]; rfl)) rfl rfl ?_
    refine v_iinc (lv' := [(0, .ref (ad 49)), (1, .ref (ad ko)), (2, .int (nI a)), (3, .int (nI n)), (4, .int (nI (i + 1)))]) C eX12_give_96 4 rfl (ix_inc _) (by decide) [1, 2, 3, 4, 0] rfl ?_
    refine v_goto (tgt := 7) C eX12_give_99 (by decide) ?_
    exact ih

set_option maxRecDepth 100000 in
set_option maxHeartbeats 4000000 in
theorem c_give3 (I : nI1 ad N) (hN : ∀ k, k < 74 → k < N) {σ : nS} {x T : Nat → Int32} {Rc K : Nat → Int64} (h11 : σ 11 = eI G 25 T) (h12 : σ 12 = eJ G 24 Rc) (h6 : σ 6 = eJ G 80 K) (h : hT) (hf : h.2.2.2.2.2.1 < rateK 3) {ko no : Nat} {fo : Nat → Int32} (hkN : ko < N) (hko : ko ∉ [13, 14, 15, 16, 17, 49]) (hk2 : ko ∉ [6, 11, 12]) (ho : σ ko = eB G no fo) (a n : Nat) (hn : n ≤ 64) (han : a + n ≤ no) (hno : no < 2 ^ 31) : nOk G B l ad N yX12_give cX12_give 5 none 4 0 0 [.ref (ad 49), .ref (ad ko), .int (nI a), .int (nI n)] (hσ G ad σ x 3 h) (fun r σ' => r = none ∧ σ' = hσ G ad (va_up σ ko (eB G no (gvF 3 (hFin T Rc K 3 h).1 a n fo))) x 3 (hFin T Rc K 3 h)) := by
  refine vOk.of (by decide +kernel) (Nat.le_of_ble_eq_true rfl) ?_
  intro p e s m args below meth c C
  have hk : 3 = 1 ∨ 3 = 3 ∨ 3 = 12 := by decide
  refine v_eq (lv' := [(0, .ref (ad 49)), (1, .ref (ad ko)), (2, .int (nI a)), (3, .int (nI n))]) rfl rfl rfl ?_
  refine v_aload_n C eX12_give_0 rfl 0 rfl ?_
  refine n_callV (As := []) (rest := []) C I mX12_174 (c_finish3 I hN h11 h12 h6 h hf) (hN 49 (by decide)) rfl rfl (by decide) (by decide) ⟨by decide, by decide⟩ rfl rfl (Nat.le_of_ble_eq_true rfl) eX12_give_1 (fun r σ' hp => ?_)
  obtain ⟨rfl, rfl⟩ := hp
  generalize hFin T Rc K 3 h = g
  refine v_eq (w' := nW ad N (hσ G ad (va_up σ ko (eB G no (gvF 3 g.1 a 0 fo))) x 3 g)) (by rw [show gvF 3 g.1 a 0 fo = fo from rfl, n_id ho]) rfl rfl ?_
  refine v_iconst (v := (0 : Int32)) C eX12_give_4 (by decide) ?_
  refine v_istore (lv' := [(0, .ref (ad 49)), (1, .ref (ad ko)), (2, .int (nI a)), (3, .int (nI n)), (4, .int ((0 : Int32)))]) C eX12_give_5 (by decide) [1, 2, 3, 4, 0] rfl ?_
  refine v_forV (fun i => hσ G ad (va_up σ ko (eB G no (gvF 3 g.1 a i fo))) x 3 g) (fun i => [(0, .ref (ad 49)), (1, .ref (ad ko)), (2, .int (nI a)), (3, .int (nI n)), (4, .int (nI i))]) n ?_ ?_
  · refine v_iload C eX12_give_7 4 rfl ?_
    refine v_iload_n C eX12_give_9 rfl 3 rfl ?_
    refine v_icmp_ge (tgt := 102) C eX12_give_10 (by decide) (fun _ => ?_) (fun h => absurd (ix_le (a := n) (b := n) (rfl : nI n = nI n) (rfl : nI n = nI n) (by omega) (by omega) (by omega)) h)
    exact n_vret C rfl eX12_give_102 ⟨rfl, rfl⟩
  · intro i hi ih
    refine v_iload C eX12_give_7 4 rfl ?_
    refine v_iload_n C eX12_give_9 rfl 3 rfl ?_
    refine v_icmp_ge (tgt := 102) C eX12_give_10 (by decide) (fun h => absurd h (ix_nle (a := n) (b := i) (rfl : nI n = nI n) (rfl : nI i = nI i) (by omega) (by omega) (by omega))) (fun _ => ?_)
    have hob : (hσ G ad (va_up σ ko (eB G no (gvF 3 g.1 a i fo))) x 3 g) ko = eB G no (gvF 3 g.1 a i fo) := (hσ_ne hko).trans n_self
    refine v_aload_n C eX12_give_13 rfl 0 rfl ?_
    refine n_callV (As := []) (rest := []) C I mX12_198 (c_sponge I hN rfl) (hN 49 (by decide)) rfl rfl (by omega) (by decide) ⟨by decide, by decide⟩ rfl rfl (Nat.le_of_ble_eq_true rfl) eX12_give_14 (fun r σ' hp => ?_)
    obtain ⟨rfl, rfl⟩ := hp
    refine v_if_eq (tgt := 34) C eX12_give_17 (by decide) (fun _ => ?_) (fun h => absurd (show (if nI 3 ≤ (6 : Int32) then (0 : Int32) else 1) = 0 from by decide +kernel) h)
    refine v_aload_n C eX12_give_34 rfl 1 rfl ?_
    refine v_iload_n C eX12_give_35 rfl 2 rfl ?_
    refine v_iload C eX12_give_36 4 rfl ?_
    refine v_iadd C eX12_give_38 ?_
    refine v_aload_n C eX12_give_39 rfl 0 rfl ?_
    refine n_get C I fX12_193_X12 eX12_give_40 (hN 49 (by decide)) rfl rfl ?_
    refine v_bipush (v := (64 : Int32)) C eX12_give_43 (by decide) ?_
    refine v_icmp_ne (tgt := 71) C eX12_give_45 (by decide) (fun _ => ?_) (fun h => absurd h (ix_ne (a := 128) (b := 64) (rfl : nI (rateK 3) = nI 128) (rfl : (64 : Int32) = nI 64) (by omega) (by omega) (by omega)))
    refine v_aload_n C eX12_give_71 rfl 0 rfl ?_
    refine n_get C I fX12_48_X12 eX12_give_72 (hN 49 (by decide)) rfl rfl ?_
    refine v_iload C eX12_give_75 4 rfl ?_
    refine v_bipush (v := (8 : Int32)) C eX12_give_77 (by decide) ?_
    refine v_idiv C eX12_give_79 (by decide) ?_
    refine n_lald C I eX12_give_80 (hN 13 (by decide)) rfl (i / 8) (ix_div (a := i) (d := 8) (rfl : nI i = nI i) (rfl : (8 : Int32) = nI 8) (by omega) (by omega) (by omega)) (by omega) (by decide) ?_
    refine v_bipush (v := (56 : Int32)) C eX12_give_81 (by decide) ?_
    refine v_bipush (v := (8 : Int32)) C eX12_give_83 (by decide) ?_
    refine v_iload C eX12_give_85 4 rfl ?_
    refine v_bipush (v := (8 : Int32)) C eX12_give_87 (by decide) ?_
    refine v_irem C eX12_give_89 (by decide) ?_
    refine v_imul C eX12_give_90 ?_
    refine v_isub C eX12_give_91 ?_
    refine v_natT (show ((56 : Int32)) - (((8 : Int32)) * ((nI i) - (nI i) / ((8 : Int32)) * ((8 : Int32)))) = nI (56 - (8 * (i % 8))) from (ix_sub (a := 56) (b := 8 * (i % 8)) (rfl : (56 : Int32) = nI 56) (ix_mul (a := 8) (b := i % 8) (rfl : (8 : Int32) = nI 8) (ix_rem (a := i) (d := 8) (rfl : nI i = nI i) (rfl : (8 : Int32) = nI 8) (by omega) (by omega) (by omega))) (by omega))) ?_
    refine v_lushr C eX12_give_92 ?_
    refine v_l2i C eX12_give_93 ?_
    refine v_i2b C eX12_give_94 ?_
    refine n_bast C I eX12_give_95 hkN hob (a + i) (ix_add (a := a) (b := i) (rfl : nI a = nI a) (rfl : nI i = nI i)) (by omega) (by omega) ?_
    refine v_eq (w' := nW ad N (hσ G ad (va_up σ ko (eB G no (gvF 3 g.1 a (i + 1) fo))) x 3 g)) (congrArg (nW ad N) (by rw [hσ_up hko, bx_uu]; rfl)) rfl rfl ?_
    refine v_iinc (lv' := [(0, .ref (ad 49)), (1, .ref (ad ko)), (2, .int (nI a)), (3, .int (nI n)), (4, .int (nI (i + 1)))]) C eX12_give_96 4 rfl (ix_inc _) (by decide) [1, 2, 3, 4, 0] rfl ?_
    refine v_goto (tgt := 7) C eX12_give_99 (by decide) ?_
    exact ih

set_option maxRecDepth 100000 in
set_option maxHeartbeats 4000000 in
theorem c_give12 (I : nI1 ad N) (hN : ∀ k, k < 74 → k < N) {σ : nS} {x T : Nat → Int32} {Rc K : Nat → Int64} (h11 : σ 11 = eI G 25 T) (h12 : σ 12 = eJ G 24 Rc) (h6 : σ 6 = eJ G 80 K) (h : hT) (hf : h.2.2.2.2.2.1 < rateK 12) {ko no : Nat} {fo : Nat → Int32} (hkN : ko < N) (hko : ko ∉ [13, 14, 15, 16, 17, 49]) (hk2 : ko ∉ [6, 11, 12]) (ho : σ ko = eB G no fo) (a n : Nat) (hn : n ≤ 64) (han : a + n ≤ no) (hno : no < 2 ^ 31) : nOk G B l ad N yX12_give cX12_give 5 none 4 0 0 [.ref (ad 49), .ref (ad ko), .int (nI a), .int (nI n)] (hσ G ad σ x 12 h) (fun r σ' => r = none ∧ σ' = hσ G ad (va_up σ ko (eB G no (gvF 12 (hFin T Rc K 12 h).1 a n fo))) x 12 ((hFin T Rc K 12 h).1, (hFin T Rc K 12 h).2.1, (hFin T Rc K 12 h).2.2.1, (hFin T Rc K 12 h).2.2.2.1, (hFin T Rc K 12 h).2.2.2.2.1, n, (hFin T Rc K 12 h).2.2.2.2.2.2)) := by
  refine vOk.of (by decide +kernel) (Nat.le_of_ble_eq_true rfl) ?_
  intro p e s m args below meth c C
  have hk : 12 = 1 ∨ 12 = 3 ∨ 12 = 12 := by decide
  refine v_eq (lv' := [(0, .ref (ad 49)), (1, .ref (ad ko)), (2, .int (nI a)), (3, .int (nI n))]) rfl rfl rfl ?_
  obtain ⟨S0, O0, D0, W0, Bk0, fl0, tt0⟩ := h
  refine v_aload_n C eX12_give_0 rfl 0 rfl ?_
  refine n_callV (As := []) (rest := []) C I mX12_174 (c_finish12 I hN h11 h12 h6 S0 O0 D0 W0 Bk0 fl0 tt0 hf) (hN 49 (by decide)) rfl rfl (by decide) (by decide) ⟨by decide, by decide⟩ rfl rfl (Nat.le_of_ble_eq_true rfl) eX12_give_1 (fun r σ' hp => ?_)
  obtain ⟨rfl, rfl⟩ := hp
  generalize hg : (itN (pmR T Rc) 24 (sp1 (sp1 S0 fl0 31) 135 128, O0, D0)) = g
  have hF : hFin T Rc K 12 (S0, O0, D0, W0, Bk0, fl0, tt0) = (g.1, g.2.1, g.2.2, W0, Bk0, 0, tt0) := by rw [← hg]; rfl
  rw [hF]
  refine v_eq (w' := nW ad N (hσ G ad (va_up σ ko (eB G no (gvF 12 g.1 a 0 fo))) x 12 (g.1, g.2.1, g.2.2, W0, Bk0, 0, tt0))) (by rw [show gvF 12 g.1 a 0 fo = fo from rfl, n_id ho]) rfl rfl ?_
  refine v_iconst (v := (0 : Int32)) C eX12_give_4 (by decide) ?_
  refine v_istore (lv' := [(0, .ref (ad 49)), (1, .ref (ad ko)), (2, .int (nI a)), (3, .int (nI n)), (4, .int ((0 : Int32)))]) C eX12_give_5 (by decide) [1, 2, 3, 4, 0] rfl ?_
  refine v_forV (fun i => hσ G ad (va_up σ ko (eB G no (gvF 12 g.1 a i fo))) x 12 (g.1, g.2.1, g.2.2, W0, Bk0, i, tt0)) (fun i => [(0, .ref (ad 49)), (1, .ref (ad ko)), (2, .int (nI a)), (3, .int (nI n)), (4, .int (nI i))]) n ?_ ?_
  · refine v_iload C eX12_give_7 4 rfl ?_
    refine v_iload_n C eX12_give_9 rfl 3 rfl ?_
    refine v_icmp_ge (tgt := 102) C eX12_give_10 (by decide) (fun _ => ?_) (fun h => absurd (ix_le (a := n) (b := n) (rfl : nI n = nI n) (rfl : nI n = nI n) (by omega) (by omega) (by omega)) h)
    exact n_vret C rfl eX12_give_102 ⟨rfl, rfl⟩
  · intro i hi ih
    refine v_iload C eX12_give_7 4 rfl ?_
    refine v_iload_n C eX12_give_9 rfl 3 rfl ?_
    refine v_icmp_ge (tgt := 102) C eX12_give_10 (by decide) (fun h => absurd h (ix_nle (a := n) (b := i) (rfl : nI n = nI n) (rfl : nI i = nI i) (by omega) (by omega) (by omega))) (fun _ => ?_)
    have hob : (hσ G ad (va_up σ ko (eB G no (gvF 12 g.1 a i fo))) x 12 (g.1, g.2.1, g.2.2, W0, Bk0, i, tt0)) ko = eB G no (gvF 12 g.1 a i fo) := (hσ_ne hko).trans n_self
    refine v_aload_n C eX12_give_13 rfl 0 rfl ?_
    refine n_callV (As := []) (rest := []) C I mX12_198 (c_sponge I hN rfl) (hN 49 (by decide)) rfl rfl (by omega) (by decide) ⟨by decide, by decide⟩ rfl rfl (Nat.le_of_ble_eq_true rfl) eX12_give_14 (fun r σ' hp => ?_)
    obtain ⟨rfl, rfl⟩ := hp
    refine v_if_eq (tgt := 34) C eX12_give_17 (by decide) (fun h => absurd h (show ¬ (if nI 12 ≤ (6 : Int32) then (0 : Int32) else 1) = 0 from by decide +kernel)) (fun _ => ?_)
    refine v_aload_n C eX12_give_20 rfl 1 rfl ?_
    refine v_iload_n C eX12_give_21 rfl 2 rfl ?_
    refine v_iload C eX12_give_22 4 rfl ?_
    refine v_iadd C eX12_give_24 ?_
    refine v_aload_n C eX12_give_25 rfl 0 rfl ?_
    refine n_callV (As := []) (rest := [.int ((nI a) + (nI i)), .ref (ad ko)]) C I mX12_229 (c_squeeze I hN (σ := va_up σ ko (eB G no (gvF 12 g.1 a i fo))) ((n_ne (by simp at hk2; omega)).trans h11) ((n_ne (by simp at hk2; omega)).trans h12) ((n_ne (by simp at hk2; omega)).trans h6) g.1 g.2.1 g.2.2 W0 Bk0 i tt0 (by omega)) (hN 49 (by decide)) rfl rfl (by decide) (by decide) ⟨by decide, by decide⟩ rfl rfl (Nat.le_of_ble_eq_true rfl) eX12_give_26 (fun r σ' hp => ?_)
    obtain ⟨rfl, rfl⟩ := hp
    have hob : (hσ G ad (va_up σ ko (eB G no (gvF 12 g.1 a i fo))) x 12 (g.1, g.2.1, g.2.2, W0, Bk0, i + 1, tt0)) ko = eB G no (gvF 12 g.1 a i fo) := (hσ_ne hko).trans n_self
    refine v_i2b C eX12_give_29 ?_
    refine n_bast C I eX12_give_30 hkN hob (a + i) (ix_add (a := a) (b := i) (rfl : nI a = nI a) (rfl : nI i = nI i)) (by omega) (by omega) ?_
    refine v_eq (w' := nW ad N (hσ G ad (va_up σ ko (eB G no (gvF 12 g.1 a (i + 1) fo))) x 12 (g.1, g.2.1, g.2.2, W0, Bk0, (i + 1), tt0))) (congrArg (nW ad N) (by rw [hσ_up hko, bx_uu]; rfl)) rfl rfl ?_
    refine v_goto (tgt := 96) C eX12_give_31 (by decide) ?_
    refine v_iinc (lv' := [(0, .ref (ad 49)), (1, .ref (ad ko)), (2, .int (nI a)), (3, .int (nI n)), (4, .int (nI (i + 1)))]) C eX12_give_96 4 rfl (ix_inc _) (by decide) [1, 2, 3, 4, 0] rfl ?_
    refine v_goto (tgt := 7) C eX12_give_99 (by decide) ?_
    exact ih

end M7
end
section
theorem eX12_type_0 : vD cX12_type 0 (.iconst 0) 1 1 := ⟨by decide +kernel, rfl⟩
theorem eX12_type_1 : vD cX12_type 1 (.istore 5) 2 3 := ⟨by decide +kernel, rfl⟩
theorem eX12_type_3 : vD cX12_type 3 (.iload 5) 2 5 := ⟨by decide +kernel, rfl⟩
theorem eX12_type_5 : vD cX12_type 5 (.iconst 4) 1 6 := ⟨by decide +kernel, rfl⟩
theorem eX12_type_6 : vD cX12_type 6 (.if_icmp .ge 94) 3 9 := ⟨by decide +kernel, rfl⟩
theorem eX12_type_9 : vD cX12_type 9 (.aload_n 0) 1 10 := ⟨by decide +kernel, rfl⟩
theorem eX12_type_10 : vD cX12_type 10 (.getfield 81) 3 13 := ⟨by decide +kernel, rfl⟩
theorem eX12_type_13 : vD cX12_type 13 (.bipush 16) 2 15 := ⟨by decide +kernel, rfl⟩
theorem eX12_type_15 : vD cX12_type 15 (.iload 5) 2 17 := ⟨by decide +kernel, rfl⟩
theorem eX12_type_17 : vD cX12_type 17 .iadd 1 18 := ⟨by decide +kernel, rfl⟩
theorem eX12_type_18 : vD cX12_type 18 (.iload_n 1) 1 19 := ⟨by decide +kernel, rfl⟩
theorem eX12_type_19 : vD cX12_type 19 (.bipush 24) 2 21 := ⟨by decide +kernel, rfl⟩
theorem eX12_type_21 : vD cX12_type 21 (.bipush 8) 2 23 := ⟨by decide +kernel, rfl⟩
theorem eX12_type_23 : vD cX12_type 23 (.iload 5) 2 25 := ⟨by decide +kernel, rfl⟩
theorem eX12_type_25 : vD cX12_type 25 .imul 1 26 := ⟨by decide +kernel, rfl⟩
theorem eX12_type_26 : vD cX12_type 26 .isub 1 27 := ⟨by decide +kernel, rfl⟩
theorem eX12_type_27 : vD cX12_type 27 .ishr 1 28 := ⟨by decide +kernel, rfl⟩
theorem eX12_type_28 : vD cX12_type 28 .i2b 1 29 := ⟨by decide +kernel, rfl⟩
theorem eX12_type_29 : vD cX12_type 29 .bastore 1 30 := ⟨by decide +kernel, rfl⟩
theorem eX12_type_30 : vD cX12_type 30 (.aload_n 0) 1 31 := ⟨by decide +kernel, rfl⟩
theorem eX12_type_31 : vD cX12_type 31 (.getfield 81) 3 34 := ⟨by decide +kernel, rfl⟩
theorem eX12_type_34 : vD cX12_type 34 (.bipush 20) 2 36 := ⟨by decide +kernel, rfl⟩
theorem eX12_type_36 : vD cX12_type 36 (.iload 5) 2 38 := ⟨by decide +kernel, rfl⟩
theorem eX12_type_38 : vD cX12_type 38 .iadd 1 39 := ⟨by decide +kernel, rfl⟩
theorem eX12_type_39 : vD cX12_type 39 (.iload_n 2) 1 40 := ⟨by decide +kernel, rfl⟩
theorem eX12_type_40 : vD cX12_type 40 (.bipush 24) 2 42 := ⟨by decide +kernel, rfl⟩
theorem eX12_type_42 : vD cX12_type 42 (.bipush 8) 2 44 := ⟨by decide +kernel, rfl⟩
theorem eX12_type_44 : vD cX12_type 44 (.iload 5) 2 46 := ⟨by decide +kernel, rfl⟩
theorem eX12_type_46 : vD cX12_type 46 .imul 1 47 := ⟨by decide +kernel, rfl⟩
theorem eX12_type_47 : vD cX12_type 47 .isub 1 48 := ⟨by decide +kernel, rfl⟩
theorem eX12_type_48 : vD cX12_type 48 .ishr 1 49 := ⟨by decide +kernel, rfl⟩
theorem eX12_type_49 : vD cX12_type 49 .i2b 1 50 := ⟨by decide +kernel, rfl⟩
theorem eX12_type_50 : vD cX12_type 50 .bastore 1 51 := ⟨by decide +kernel, rfl⟩
theorem eX12_type_51 : vD cX12_type 51 (.aload_n 0) 1 52 := ⟨by decide +kernel, rfl⟩
theorem eX12_type_52 : vD cX12_type 52 (.getfield 81) 3 55 := ⟨by decide +kernel, rfl⟩
theorem eX12_type_55 : vD cX12_type 55 (.bipush 24) 2 57 := ⟨by decide +kernel, rfl⟩
theorem eX12_type_57 : vD cX12_type 57 (.iload 5) 2 59 := ⟨by decide +kernel, rfl⟩
theorem eX12_type_59 : vD cX12_type 59 .iadd 1 60 := ⟨by decide +kernel, rfl⟩
theorem eX12_type_60 : vD cX12_type 60 (.iload_n 3) 1 61 := ⟨by decide +kernel, rfl⟩
theorem eX12_type_61 : vD cX12_type 61 (.bipush 24) 2 63 := ⟨by decide +kernel, rfl⟩
theorem eX12_type_63 : vD cX12_type 63 (.bipush 8) 2 65 := ⟨by decide +kernel, rfl⟩
theorem eX12_type_65 : vD cX12_type 65 (.iload 5) 2 67 := ⟨by decide +kernel, rfl⟩
theorem eX12_type_67 : vD cX12_type 67 .imul 1 68 := ⟨by decide +kernel, rfl⟩
theorem eX12_type_68 : vD cX12_type 68 .isub 1 69 := ⟨by decide +kernel, rfl⟩
theorem eX12_type_69 : vD cX12_type 69 .ishr 1 70 := ⟨by decide +kernel, rfl⟩
theorem eX12_type_70 : vD cX12_type 70 .i2b 1 71 := ⟨by decide +kernel, rfl⟩
theorem eX12_type_71 : vD cX12_type 71 .bastore 1 72 := ⟨by decide +kernel, rfl⟩
theorem eX12_type_72 : vD cX12_type 72 (.aload_n 0) 1 73 := ⟨by decide +kernel, rfl⟩
theorem eX12_type_73 : vD cX12_type 73 (.getfield 81) 3 76 := ⟨by decide +kernel, rfl⟩
theorem eX12_type_76 : vD cX12_type 76 (.bipush 28) 2 78 := ⟨by decide +kernel, rfl⟩
theorem eX12_type_78 : vD cX12_type 78 (.iload 5) 2 80 := ⟨by decide +kernel, rfl⟩
theorem eX12_type_80 : vD cX12_type 80 .iadd 1 81 := ⟨by decide +kernel, rfl⟩
theorem eX12_type_81 : vD cX12_type 81 (.iload 4) 2 83 := ⟨by decide +kernel, rfl⟩
theorem eX12_type_83 : vD cX12_type 83 (.bipush 24) 2 85 := ⟨by decide +kernel, rfl⟩
theorem eX12_type_85 : vD cX12_type 85 (.bipush 8) 2 87 := ⟨by decide +kernel, rfl⟩
theorem eX12_type_87 : vD cX12_type 87 (.iload 5) 2 89 := ⟨by decide +kernel, rfl⟩
theorem eX12_type_89 : vD cX12_type 89 .imul 1 90 := ⟨by decide +kernel, rfl⟩
theorem eX12_type_90 : vD cX12_type 90 .isub 1 91 := ⟨by decide +kernel, rfl⟩
theorem eX12_type_91 : vD cX12_type 91 .ishr 1 92 := ⟨by decide +kernel, rfl⟩
theorem eX12_type_92 : vD cX12_type 92 .i2b 1 93 := ⟨by decide +kernel, rfl⟩
theorem eX12_type_93 : vD cX12_type 93 .bastore 1 94 := ⟨by decide +kernel, rfl⟩
theorem eX12_type_94 : vD cX12_type 94 (.iinc 5 1) 3 97 := ⟨by decide +kernel, rfl⟩
theorem eX12_type_97 : vD cX12_type 97 (.goto (-94)) 3 100 := ⟨by decide +kernel, rfl⟩
theorem eX12_type_100 : vD cX12_type 100 .return_ 1 101 := ⟨by decide +kernel, rfl⟩
theorem eX12_place_0 : vD cX12_place 0 (.iconst 0) 1 1 := ⟨by decide +kernel, rfl⟩
theorem eX12_place_1 : vD cX12_place 1 (.istore 4) 2 3 := ⟨by decide +kernel, rfl⟩
theorem eX12_place_3 : vD cX12_place 3 (.iload 4) 2 5 := ⟨by decide +kernel, rfl⟩
theorem eX12_place_5 : vD cX12_place 5 (.iconst 4) 1 6 := ⟨by decide +kernel, rfl⟩
theorem eX12_place_6 : vD cX12_place 6 (.if_icmp .ge 27) 3 9 := ⟨by decide +kernel, rfl⟩
theorem eX12_place_9 : vD cX12_place 9 (.aload_n 0) 1 10 := ⟨by decide +kernel, rfl⟩
theorem eX12_place_10 : vD cX12_place 10 (.getfield 81) 3 13 := ⟨by decide +kernel, rfl⟩
theorem eX12_place_13 : vD cX12_place 13 (.iload 4) 2 15 := ⟨by decide +kernel, rfl⟩
theorem eX12_place_15 : vD cX12_place 15 (.iload_n 1) 1 16 := ⟨by decide +kernel, rfl⟩
theorem eX12_place_16 : vD cX12_place 16 (.bipush 24) 2 18 := ⟨by decide +kernel, rfl⟩
theorem eX12_place_18 : vD cX12_place 18 (.bipush 8) 2 20 := ⟨by decide +kernel, rfl⟩
theorem eX12_place_20 : vD cX12_place 20 (.iload 4) 2 22 := ⟨by decide +kernel, rfl⟩
theorem eX12_place_22 : vD cX12_place 22 .imul 1 23 := ⟨by decide +kernel, rfl⟩
theorem eX12_place_23 : vD cX12_place 23 .isub 1 24 := ⟨by decide +kernel, rfl⟩
theorem eX12_place_24 : vD cX12_place 24 .ishr 1 25 := ⟨by decide +kernel, rfl⟩
theorem eX12_place_25 : vD cX12_place 25 .i2b 1 26 := ⟨by decide +kernel, rfl⟩
theorem eX12_place_26 : vD cX12_place 26 .bastore 1 27 := ⟨by decide +kernel, rfl⟩
theorem eX12_place_27 : vD cX12_place 27 (.iinc 4 1) 3 30 := ⟨by decide +kernel, rfl⟩
theorem eX12_place_30 : vD cX12_place 30 (.goto (-27)) 3 33 := ⟨by decide +kernel, rfl⟩
theorem eX12_place_33 : vD cX12_place 33 (.iconst 0) 1 34 := ⟨by decide +kernel, rfl⟩
theorem eX12_place_34 : vD cX12_place 34 (.istore 4) 2 36 := ⟨by decide +kernel, rfl⟩
theorem eX12_place_36 : vD cX12_place 36 (.iload 4) 2 38 := ⟨by decide +kernel, rfl⟩
theorem eX12_place_38 : vD cX12_place 38 (.iconst 4) 1 39 := ⟨by decide +kernel, rfl⟩
theorem eX12_place_39 : vD cX12_place 39 (.if_icmp .ge 19) 3 42 := ⟨by decide +kernel, rfl⟩
theorem eX12_place_42 : vD cX12_place 42 (.aload_n 0) 1 43 := ⟨by decide +kernel, rfl⟩
theorem eX12_place_43 : vD cX12_place 43 (.getfield 81) 3 46 := ⟨by decide +kernel, rfl⟩
theorem eX12_place_46 : vD cX12_place 46 (.iconst 4) 1 47 := ⟨by decide +kernel, rfl⟩
theorem eX12_place_47 : vD cX12_place 47 (.iload 4) 2 49 := ⟨by decide +kernel, rfl⟩
theorem eX12_place_49 : vD cX12_place 49 .iadd 1 50 := ⟨by decide +kernel, rfl⟩
theorem eX12_place_50 : vD cX12_place 50 (.iconst 0) 1 51 := ⟨by decide +kernel, rfl⟩
theorem eX12_place_51 : vD cX12_place 51 .bastore 1 52 := ⟨by decide +kernel, rfl⟩
theorem eX12_place_52 : vD cX12_place 52 (.iinc 4 1) 3 55 := ⟨by decide +kernel, rfl⟩
theorem eX12_place_55 : vD cX12_place 55 (.goto (-19)) 3 58 := ⟨by decide +kernel, rfl⟩
theorem eX12_place_58 : vD cX12_place 58 (.iconst 0) 1 59 := ⟨by decide +kernel, rfl⟩
theorem eX12_place_59 : vD cX12_place 59 (.istore 4) 2 61 := ⟨by decide +kernel, rfl⟩
theorem eX12_place_61 : vD cX12_place 61 (.iload 4) 2 63 := ⟨by decide +kernel, rfl⟩
theorem eX12_place_63 : vD cX12_place 63 (.bipush 8) 2 65 := ⟨by decide +kernel, rfl⟩
theorem eX12_place_65 : vD cX12_place 65 (.if_icmp .ge 31) 3 68 := ⟨by decide +kernel, rfl⟩
theorem eX12_place_68 : vD cX12_place 68 (.aload_n 0) 1 69 := ⟨by decide +kernel, rfl⟩
theorem eX12_place_69 : vD cX12_place 69 (.getfield 81) 3 72 := ⟨by decide +kernel, rfl⟩
theorem eX12_place_72 : vD cX12_place 72 (.bipush 8) 2 74 := ⟨by decide +kernel, rfl⟩
theorem eX12_place_74 : vD cX12_place 74 (.iload 4) 2 76 := ⟨by decide +kernel, rfl⟩
theorem eX12_place_76 : vD cX12_place 76 .iadd 1 77 := ⟨by decide +kernel, rfl⟩
theorem eX12_place_77 : vD cX12_place 77 (.lload_n 2) 1 78 := ⟨by decide +kernel, rfl⟩
theorem eX12_place_78 : vD cX12_place 78 (.bipush 56) 2 80 := ⟨by decide +kernel, rfl⟩
theorem eX12_place_80 : vD cX12_place 80 (.bipush 8) 2 82 := ⟨by decide +kernel, rfl⟩
theorem eX12_place_82 : vD cX12_place 82 (.iload 4) 2 84 := ⟨by decide +kernel, rfl⟩
theorem eX12_place_84 : vD cX12_place 84 .imul 1 85 := ⟨by decide +kernel, rfl⟩
theorem eX12_place_85 : vD cX12_place 85 .isub 1 86 := ⟨by decide +kernel, rfl⟩
theorem eX12_place_86 : vD cX12_place 86 .lshr 1 87 := ⟨by decide +kernel, rfl⟩
theorem eX12_place_87 : vD cX12_place 87 .l2i 1 88 := ⟨by decide +kernel, rfl⟩
theorem eX12_place_88 : vD cX12_place 88 .i2b 1 89 := ⟨by decide +kernel, rfl⟩
theorem eX12_place_89 : vD cX12_place 89 .bastore 1 90 := ⟨by decide +kernel, rfl⟩
theorem eX12_place_90 : vD cX12_place 90 (.iinc 4 1) 3 93 := ⟨by decide +kernel, rfl⟩
theorem eX12_place_93 : vD cX12_place 93 (.goto (-32)) 3 96 := ⟨by decide +kernel, rfl⟩
theorem eX12_place_96 : vD cX12_place 96 .return_ 1 97 := ⟨by decide +kernel, rfl⟩

def mvF (f : Nat → Int32) (a b n : Nat) (g : Nat → Int32) : Nat → Int32 := itN (fun i g => upd g (b + i) (vp_nar .byte (f (a + i)))) n g
/-- byte i of four, the highest first; of eight -/
def b4 (v : Int32) (i : Nat) : Int32 := vp_nar .byte (v >>> (nI (24 - 8 * i) &&& 31)).toInt8.toInt32
def b8 (v : Int64) (i : Nat) : Int32 := vp_nar .byte (v >>> ((nI (56 - 8 * i)).toInt64 &&& 63)).toInt32.toInt8.toInt32
def tyF (t x y z : Int32) (n : Nat) (A : Nat → Int32) : Nat → Int32 := itN (fun i A => upd (upd (upd (upd A (16 + i) (b4 t i)) (20 + i) (b4 x i)) (24 + i) (b4 y i)) (28 + i) (b4 z i)) n A
def plA (v : Int32) (n : Nat) (A : Nat → Int32) : Nat → Int32 := itN (fun i A => upd A i (b4 v i)) n A
def plB (n : Nat) (A : Nat → Int32) : Nat → Int32 := itN (fun i A => upd A (4 + i) (vp_nar .byte 0)) n A
def plC (v : Int64) (n : Nat) (A : Nat → Int32) : Nat → Int32 := itN (fun i A => upd A (8 + i) (b8 v i)) n A
section M8
variable {G : vG} {B : Nat} {l : Launch} {ad : Nat → Nat} {N : Nat}
set_option maxRecDepth 100000 in
set_option maxHeartbeats 4000000 in
theorem c_move (I : nI1 ad N) {σ : nS} {kf kt nf nt : Nat} {f g : Nat → Int32} (hfN : kf < N) (htN : kt < N) (hne : kf ≠ kt) (hf : σ kf = eB G nf f) (ht : σ kt = eB G nt g) (a b n : Nat) (h1 : a + n ≤ nf) (h2 : b + n ≤ nt) (hnf : nf < 2 ^ 31) (hnt : nt < 2 ^ 31) : nOk G B l ad N yX12_move cX12_move 6 none 0 0 0 [.ref (ad kf), .int (nI a), .ref (ad kt), .int (nI b), .int (nI n)] σ (fun r σ' => r = none ∧ σ' = va_up σ kt (eB G nt (mvF f a b n g))) := by
  refine vOk.of (by decide +kernel) (Nat.le_of_ble_eq_true rfl) ?_
  intro p e s m args below meth c C
  refine v_eq (lv' := [(0, .ref (ad kf)), (1, .int (nI a)), (2, .ref (ad kt)), (3, .int (nI b)), (4, .int (nI n))]) rfl rfl rfl ?_
  refine v_eq (w' := nW ad N (va_up σ kt (eB G nt (mvF f a b 0 g)))) (by rw [show mvF f a b 0 g = g from rfl, n_id ht]) rfl rfl ?_
  refine v_iconst (v := (0 : Int32)) C eX12_move_0 (by decide) ?_
  refine v_istore (lv' := [(0, .ref (ad kf)), (1, .int (nI a)), (2, .ref (ad kt)), (3, .int (nI b)), (4, .int (nI n)), (5, .int ((0 : Int32)))]) C eX12_move_1 (by decide) [1, 2, 3, 4, 5, 0] rfl ?_
  refine v_forV (fun i => va_up σ kt (eB G nt (mvF f a b i g))) (fun i => [(0, .ref (ad kf)), (1, .int (nI a)), (2, .ref (ad kt)), (3, .int (nI b)), (4, .int (nI n)), (5, .int (nI i))]) n ?_ ?_
  · refine v_iload C eX12_move_3 5 rfl ?_
    refine v_iload C eX12_move_5 4 rfl ?_
    refine v_icmp_ge (tgt := 28) C eX12_move_7 (by decide) (fun _ => ?_) (fun h => absurd (ix_le (a := n) (b := n) (rfl : nI n = nI n) (rfl : nI n = nI n) (by omega) (by omega) (by omega)) h)
    exact n_vret C rfl eX12_move_28 ⟨rfl, rfl⟩
  · intro i hi ih
    refine v_iload C eX12_move_3 5 rfl ?_
    refine v_iload C eX12_move_5 4 rfl ?_
    refine v_icmp_ge (tgt := 28) C eX12_move_7 (by decide) (fun h => absurd h (ix_nle (a := n) (b := i) (rfl : nI n = nI n) (rfl : nI i = nI i) (by omega) (by omega) (by omega))) (fun _ => ?_)
    refine v_aload_n C eX12_move_10 rfl 2 rfl ?_
    refine v_iload_n C eX12_move_11 rfl 3 rfl ?_
    refine v_iload C eX12_move_12 5 rfl ?_
    refine v_iadd C eX12_move_14 ?_
    refine v_aload_n C eX12_move_15 rfl 0 rfl ?_
    refine v_iload_n C eX12_move_16 rfl 1 rfl ?_
    refine v_iload C eX12_move_17 5 rfl ?_
    refine v_iadd C eX12_move_19 ?_
    refine n_bald C I eX12_move_20 hfN ((n_ne hne).trans hf) (a + i) (ix_add (a := a) (b := i) (rfl : nI a = nI a) (rfl : nI i = nI i)) (by omega) (by omega) ?_
    refine n_bast C I eX12_move_21 htN n_self (b + i) (ix_add (a := b) (b := i) (rfl : nI b = nI b) (rfl : nI i = nI i)) (by omega) (by omega) ?_
    refine v_eq (w' := nW ad N (va_up σ kt (eB G nt (mvF f a b (i + 1) g)))) (congrArg (nW ad N) (by rw [bx_uu]; rfl)) rfl rfl ?_
    refine v_iinc (lv' := [(0, .ref (ad kf)), (1, .int (nI a)), (2, .ref (ad kt)), (3, .int (nI b)), (4, .int (nI n)), (5, .int (nI (i + 1)))]) C eX12_move_22 5 rfl (ix_inc _) (by decide) [1, 2, 3, 4, 5, 0] rfl ?_
    refine v_goto (tgt := 3) C eX12_move_25 (by decide) ?_
    exact ih

set_option maxRecDepth 100000 in
set_option maxHeartbeats 4000000 in
theorem c_type (I : nI1 ad N) (hN : ∀ k, k < 74 → k < N) {σ : nS} {x : Nat → Int32} {t : Int64} {A : Nat → Int32} (h49 : σ 49 = eO 9 (mO ad x t)) (h28 : σ 28 = eB G 32 A) (ty px py pz : Int32) : nOk G B l ad N yX12_type cX12_type 6 none 0 0 0 [.ref (ad 49), .int ty, .int px, .int py, .int pz] σ (fun r σ' => r = none ∧ σ' = va_up σ 28 (eB G 32 (tyF ty px py pz 4 A))) := by
  refine vOk.of (by decide +kernel) (Nat.le_of_ble_eq_true rfl) ?_
  intro p e s m args below meth c C
  refine v_eq (lv' := [(0, .ref (ad 49)), (1, .int ty), (2, .int px), (3, .int py), (4, .int pz)]) rfl rfl rfl ?_
  refine v_iconst (v := (0 : Int32)) C eX12_type_0 (by decide) ?_
  refine v_istore (lv' := [(0, .ref (ad 49)), (1, .int ty), (2, .int px), (3, .int py), (4, .int pz), (5, .int ((0 : Int32)))]) C eX12_type_1 (by decide) [1, 2, 3, 4, 5, 0] rfl ?_
  refine v_eq (w' := nW ad N (va_up σ 28 (eB G 32 A))) (congrArg (nW ad N) (n_extL [28] ⟨h28, trivial⟩ (fun q h => by simp only [List.mem_cons, List.not_mem_nil, or_false, not_or] at h; simp [va_up, h]))) rfl rfl ?_
  refine v_forV (fun i => va_up σ 28 (eB G 32 (tyF ty px py pz i A))) (fun i => [(0, .ref (ad 49)), (1, .int ty), (2, .int px), (3, .int py), (4, .int pz), (5, .int (nI i))]) 4 ?_ ?_
  · refine v_iload C eX12_type_3 5 rfl ?_
    refine v_iconst (v := (4 : Int32)) C eX12_type_5 (by decide) ?_
    refine v_icmp_ge (tgt := 100) C eX12_type_6 (by decide) (fun _ => ?_) (fun h => absurd (ix_le (a := 4) (b := 4) (rfl : (4 : Int32) = nI 4) (rfl : nI 4 = nI 4) (by omega) (by omega) (by omega)) h)
    exact n_vret C rfl eX12_type_100 ⟨rfl, rfl⟩
  · intro i hi ih
    refine v_iload C eX12_type_3 5 rfl ?_
    refine v_iconst (v := (4 : Int32)) C eX12_type_5 (by decide) ?_
    refine v_icmp_ge (tgt := 100) C eX12_type_6 (by decide) (fun h => absurd h (ix_nle (a := 4) (b := i) (rfl : (4 : Int32) = nI 4) (rfl : nI i = nI i) (by omega) (by omega) (by omega))) (fun _ => ?_)
    refine v_aload_n C eX12_type_9 rfl 0 rfl ?_
    refine n_get C I fX12_81_X12 eX12_type_10 (hN 49 (by decide)) h49 rfl ?_
    refine v_bipush (v := (16 : Int32)) C eX12_type_13 (by decide) ?_
    refine v_iload C eX12_type_15 5 rfl ?_
    refine v_iadd C eX12_type_17 ?_
    refine v_iload_n C eX12_type_18 rfl 1 rfl ?_
    refine v_bipush (v := (24 : Int32)) C eX12_type_19 (by decide) ?_
    refine v_bipush (v := (8 : Int32)) C eX12_type_21 (by decide) ?_
    refine v_iload C eX12_type_23 5 rfl ?_
    refine v_imul C eX12_type_25 ?_
    refine v_isub C eX12_type_26 ?_
    refine v_natT (show ((24 : Int32)) - (((8 : Int32)) * (nI i)) = nI (24 - (8 * i)) from (ix_sub (a := 24) (b := 8 * i) (rfl : (24 : Int32) = nI 24) (ix_mul (a := 8) (b := i) (rfl : (8 : Int32) = nI 8) (rfl : nI i = nI i)) (by omega))) ?_
    refine v_ishr C eX12_type_27 ?_
    refine v_i2b C eX12_type_28 ?_
    refine n_bast C I eX12_type_29 (hN 28 (by decide)) rfl (16 + i) (ix_add (a := 16) (b := i) (rfl : (16 : Int32) = nI 16) (rfl : nI i = nI i)) (by omega) (by decide) ?_
    refine v_eq (w' := nW ad N (va_up σ 28 (eB G 32 (upd (tyF ty px py pz i A) (16 + i) (vp_nar .byte ((ty >>> ((nI (24 - (8 * i))) &&& 31)).toInt8.toInt32)))))) (congrArg (nW ad N) (n_extL [28] ⟨rfl, trivial⟩ (fun q h => by simp only [List.mem_cons, List.not_mem_nil, or_false, not_or] at h; simp [va_up, h]))) rfl rfl ?_
    refine v_aload_n C eX12_type_30 rfl 0 rfl ?_
    refine n_get C I fX12_81_X12 eX12_type_31 (hN 49 (by decide)) h49 rfl ?_
    refine v_bipush (v := (20 : Int32)) C eX12_type_34 (by decide) ?_
    refine v_iload C eX12_type_36 5 rfl ?_
    refine v_iadd C eX12_type_38 ?_
    refine v_iload_n C eX12_type_39 rfl 2 rfl ?_
    refine v_bipush (v := (24 : Int32)) C eX12_type_40 (by decide) ?_
    refine v_bipush (v := (8 : Int32)) C eX12_type_42 (by decide) ?_
    refine v_iload C eX12_type_44 5 rfl ?_
    refine v_imul C eX12_type_46 ?_
    refine v_isub C eX12_type_47 ?_
    refine v_natT (show ((24 : Int32)) - (((8 : Int32)) * (nI i)) = nI (24 - (8 * i)) from (ix_sub (a := 24) (b := 8 * i) (rfl : (24 : Int32) = nI 24) (ix_mul (a := 8) (b := i) (rfl : (8 : Int32) = nI 8) (rfl : nI i = nI i)) (by omega))) ?_
    refine v_ishr C eX12_type_48 ?_
    refine v_i2b C eX12_type_49 ?_
    refine n_bast C I eX12_type_50 (hN 28 (by decide)) rfl (20 + i) (ix_add (a := 20) (b := i) (rfl : (20 : Int32) = nI 20) (rfl : nI i = nI i)) (by omega) (by decide) ?_
    refine v_eq (w' := nW ad N (va_up σ 28 (eB G 32 (upd (upd (tyF ty px py pz i A) (16 + i) (vp_nar .byte ((ty >>> ((nI (24 - (8 * i))) &&& 31)).toInt8.toInt32))) (20 + i) (vp_nar .byte ((px >>> ((nI (24 - (8 * i))) &&& 31)).toInt8.toInt32)))))) (congrArg (nW ad N) (n_extL [28] ⟨rfl, trivial⟩ (fun q h => by simp only [List.mem_cons, List.not_mem_nil, or_false, not_or] at h; simp [va_up, h]))) rfl rfl ?_
    refine v_aload_n C eX12_type_51 rfl 0 rfl ?_
    refine n_get C I fX12_81_X12 eX12_type_52 (hN 49 (by decide)) h49 rfl ?_
    refine v_bipush (v := (24 : Int32)) C eX12_type_55 (by decide) ?_
    refine v_iload C eX12_type_57 5 rfl ?_
    refine v_iadd C eX12_type_59 ?_
    refine v_iload_n C eX12_type_60 rfl 3 rfl ?_
    refine v_bipush (v := (24 : Int32)) C eX12_type_61 (by decide) ?_
    refine v_bipush (v := (8 : Int32)) C eX12_type_63 (by decide) ?_
    refine v_iload C eX12_type_65 5 rfl ?_
    refine v_imul C eX12_type_67 ?_
    refine v_isub C eX12_type_68 ?_
    refine v_natT (show ((24 : Int32)) - (((8 : Int32)) * (nI i)) = nI (24 - (8 * i)) from (ix_sub (a := 24) (b := 8 * i) (rfl : (24 : Int32) = nI 24) (ix_mul (a := 8) (b := i) (rfl : (8 : Int32) = nI 8) (rfl : nI i = nI i)) (by omega))) ?_
    refine v_ishr C eX12_type_69 ?_
    refine v_i2b C eX12_type_70 ?_
    refine n_bast C I eX12_type_71 (hN 28 (by decide)) rfl (24 + i) (ix_add (a := 24) (b := i) (rfl : (24 : Int32) = nI 24) (rfl : nI i = nI i)) (by omega) (by decide) ?_
    refine v_eq (w' := nW ad N (va_up σ 28 (eB G 32 (upd (upd (upd (tyF ty px py pz i A) (16 + i) (vp_nar .byte ((ty >>> ((nI (24 - (8 * i))) &&& 31)).toInt8.toInt32))) (20 + i) (vp_nar .byte ((px >>> ((nI (24 - (8 * i))) &&& 31)).toInt8.toInt32))) (24 + i) (vp_nar .byte ((py >>> ((nI (24 - (8 * i))) &&& 31)).toInt8.toInt32)))))) (congrArg (nW ad N) (n_extL [28] ⟨rfl, trivial⟩ (fun q h => by simp only [List.mem_cons, List.not_mem_nil, or_false, not_or] at h; simp [va_up, h]))) rfl rfl ?_
    refine v_aload_n C eX12_type_72 rfl 0 rfl ?_
    refine n_get C I fX12_81_X12 eX12_type_73 (hN 49 (by decide)) h49 rfl ?_
    refine v_bipush (v := (28 : Int32)) C eX12_type_76 (by decide) ?_
    refine v_iload C eX12_type_78 5 rfl ?_
    refine v_iadd C eX12_type_80 ?_
    refine v_iload C eX12_type_81 4 rfl ?_
    refine v_bipush (v := (24 : Int32)) C eX12_type_83 (by decide) ?_
    refine v_bipush (v := (8 : Int32)) C eX12_type_85 (by decide) ?_
    refine v_iload C eX12_type_87 5 rfl ?_
    refine v_imul C eX12_type_89 ?_
    refine v_isub C eX12_type_90 ?_
    refine v_natT (show ((24 : Int32)) - (((8 : Int32)) * (nI i)) = nI (24 - (8 * i)) from (ix_sub (a := 24) (b := 8 * i) (rfl : (24 : Int32) = nI 24) (ix_mul (a := 8) (b := i) (rfl : (8 : Int32) = nI 8) (rfl : nI i = nI i)) (by omega))) ?_
    refine v_ishr C eX12_type_91 ?_
    refine v_i2b C eX12_type_92 ?_
    refine n_bast C I eX12_type_93 (hN 28 (by decide)) rfl (28 + i) (ix_add (a := 28) (b := i) (rfl : (28 : Int32) = nI 28) (rfl : nI i = nI i)) (by omega) (by decide) ?_
    refine v_eq (w' := nW ad N (va_up σ 28 (eB G 32 (upd (upd (upd (upd (tyF ty px py pz i A) (16 + i) (vp_nar .byte ((ty >>> ((nI (24 - (8 * i))) &&& 31)).toInt8.toInt32))) (20 + i) (vp_nar .byte ((px >>> ((nI (24 - (8 * i))) &&& 31)).toInt8.toInt32))) (24 + i) (vp_nar .byte ((py >>> ((nI (24 - (8 * i))) &&& 31)).toInt8.toInt32))) (28 + i) (vp_nar .byte ((pz >>> ((nI (24 - (8 * i))) &&& 31)).toInt8.toInt32)))))) (congrArg (nW ad N) (n_extL [28] ⟨rfl, trivial⟩ (fun q h => by simp only [List.mem_cons, List.not_mem_nil, or_false, not_or] at h; simp [va_up, h]))) rfl rfl ?_
    refine v_iinc (lv' := [(0, .ref (ad 49)), (1, .int ty), (2, .int px), (3, .int py), (4, .int pz), (5, .int (nI (i + 1)))]) C eX12_type_94 5 rfl (ix_inc _) (by decide) [1, 2, 3, 4, 5, 0] rfl ?_
    refine v_goto (tgt := 3) C eX12_type_97 (by decide) ?_
    exact ih

set_option maxRecDepth 100000 in
set_option maxHeartbeats 4000000 in
theorem c_place (I : nI1 ad N) (hN : ∀ k, k < 74 → k < N) {σ : nS} {x : Nat → Int32} {t : Int64} {A : Nat → Int32} (h49 : σ 49 = eO 9 (mO ad x t)) (h28 : σ 28 = eB G 32 A) (ly : Int32) (tr : Int64) : nOk G B l ad N yX12_place cX12_place 5 none 0 0 0 [.ref (ad 49), .int ly, .long tr] σ (fun r σ' => r = none ∧ σ' = va_up σ 28 (eB G 32 (plC tr 8 (plB 4 (plA ly 4 A))))) := by
  refine vOk.of (by decide +kernel) (Nat.le_of_ble_eq_true rfl) ?_
  intro p e s m args below meth c C
  refine v_eq (lv' := [(0, .ref (ad 49)), (1, .int ly), (2, .long tr)]) rfl rfl rfl ?_
  refine v_iconst (v := (0 : Int32)) C eX12_place_0 (by decide) ?_
  refine v_istore (lv' := [(0, .ref (ad 49)), (1, .int ly), (2, .long tr), (4, .int ((0 : Int32)))]) C eX12_place_1 (by decide) [1, 2, 3, 0] rfl ?_
  refine v_eq (w' := nW ad N (va_up σ 28 (eB G 32 A))) (congrArg (nW ad N) (n_extL [28] ⟨h28, trivial⟩ (fun q h => by simp only [List.mem_cons, List.not_mem_nil, or_false, not_or] at h; simp [va_up, h]))) rfl rfl ?_
  refine v_forV (fun i => va_up σ 28 (eB G 32 (plA ly i A))) (fun i => [(0, .ref (ad 49)), (1, .int ly), (2, .long tr), (4, .int (nI i))]) 4 ?_ ?_
  · refine v_iload C eX12_place_3 3 rfl ?_
    refine v_iconst (v := (4 : Int32)) C eX12_place_5 (by decide) ?_
    refine v_icmp_ge (tgt := 33) C eX12_place_6 (by decide) (fun _ => ?_) (fun h => absurd (ix_le (a := 4) (b := 4) (rfl : (4 : Int32) = nI 4) (rfl : nI 4 = nI 4) (by omega) (by omega) (by omega)) h)
    refine v_iconst (v := (0 : Int32)) C eX12_place_33 (by decide) ?_
    refine v_istore (lv' := [(0, .ref (ad 49)), (1, .int ly), (2, .long tr), (4, .int ((0 : Int32)))]) C eX12_place_34 (by decide) [1, 2, 3, 0] rfl ?_
    refine v_forV (fun i => va_up σ 28 (eB G 32 (plB i (plA ly 4 A)))) (fun i => [(0, .ref (ad 49)), (1, .int ly), (2, .long tr), (4, .int (nI i))]) 4 ?_ ?_
    · refine v_iload C eX12_place_36 3 rfl ?_
      refine v_iconst (v := (4 : Int32)) C eX12_place_38 (by decide) ?_
      refine v_icmp_ge (tgt := 58) C eX12_place_39 (by decide) (fun _ => ?_) (fun h => absurd (ix_le (a := 4) (b := 4) (rfl : (4 : Int32) = nI 4) (rfl : nI 4 = nI 4) (by omega) (by omega) (by omega)) h)
      refine v_iconst (v := (0 : Int32)) C eX12_place_58 (by decide) ?_
      refine v_istore (lv' := [(0, .ref (ad 49)), (1, .int ly), (2, .long tr), (4, .int ((0 : Int32)))]) C eX12_place_59 (by decide) [1, 2, 3, 0] rfl ?_
      refine v_forV (fun i => va_up σ 28 (eB G 32 (plC tr i (plB 4 (plA ly 4 A))))) (fun i => [(0, .ref (ad 49)), (1, .int ly), (2, .long tr), (4, .int (nI i))]) 8 ?_ ?_
      · refine v_iload C eX12_place_61 3 rfl ?_
        refine v_bipush (v := (8 : Int32)) C eX12_place_63 (by decide) ?_
        refine v_icmp_ge (tgt := 96) C eX12_place_65 (by decide) (fun _ => ?_) (fun h => absurd (ix_le (a := 8) (b := 8) (rfl : (8 : Int32) = nI 8) (rfl : nI 8 = nI 8) (by omega) (by omega) (by omega)) h)
        exact n_vret C rfl eX12_place_96 ⟨rfl, rfl⟩
      · intro i hi ih
        refine v_iload C eX12_place_61 3 rfl ?_
        refine v_bipush (v := (8 : Int32)) C eX12_place_63 (by decide) ?_
        refine v_icmp_ge (tgt := 96) C eX12_place_65 (by decide) (fun h => absurd h (ix_nle (a := 8) (b := i) (rfl : (8 : Int32) = nI 8) (rfl : nI i = nI i) (by omega) (by omega) (by omega))) (fun _ => ?_)
        refine v_aload_n C eX12_place_68 rfl 0 rfl ?_
        refine n_get C I fX12_81_X12 eX12_place_69 (hN 49 (by decide)) h49 rfl ?_
        refine v_bipush (v := (8 : Int32)) C eX12_place_72 (by decide) ?_
        refine v_iload C eX12_place_74 3 rfl ?_
        refine v_iadd C eX12_place_76 ?_
        refine v_lload_n C eX12_place_77 rfl 2 rfl ?_
        refine v_bipush (v := (56 : Int32)) C eX12_place_78 (by decide) ?_
        refine v_bipush (v := (8 : Int32)) C eX12_place_80 (by decide) ?_
        refine v_iload C eX12_place_82 3 rfl ?_
        refine v_imul C eX12_place_84 ?_
        refine v_isub C eX12_place_85 ?_
        refine v_natT (show ((56 : Int32)) - (((8 : Int32)) * (nI i)) = nI (56 - (8 * i)) from (ix_sub (a := 56) (b := 8 * i) (rfl : (56 : Int32) = nI 56) (ix_mul (a := 8) (b := i) (rfl : (8 : Int32) = nI 8) (rfl : nI i = nI i)) (by omega))) ?_
        refine v_lshr C eX12_place_86 ?_
        refine v_l2i C eX12_place_87 ?_
        refine v_i2b C eX12_place_88 ?_
        refine n_bast C I eX12_place_89 (hN 28 (by decide)) rfl (8 + i) (ix_add (a := 8) (b := i) (rfl : (8 : Int32) = nI 8) (rfl : nI i = nI i)) (by omega) (by decide) ?_
        refine v_iinc (lv' := [(0, .ref (ad 49)), (1, .int ly), (2, .long tr), (4, .int (nI (i + 1)))]) C eX12_place_90 3 rfl (ix_inc _) (by decide) [1, 2, 3, 0] rfl ?_
        refine v_goto (tgt := 61) C eX12_place_93 (by decide) ?_
        refine v_eq (w' := nW ad N (va_up σ 28 (eB G 32 (upd (plC tr i (plB 4 (plA ly 4 A))) (8 + i) (vp_nar .byte (((tr >>> ((nI (56 - (8 * i))).toInt64 &&& 63)).toInt32).toInt8.toInt32)))))) (congrArg (nW ad N) (n_extL [28] ⟨rfl, trivial⟩ (fun q h => by simp only [List.mem_cons, List.not_mem_nil, or_false, not_or] at h; simp [va_up, h]))) rfl rfl ?_
        exact ih
    · intro i hi ih
      refine v_iload C eX12_place_36 3 rfl ?_
      refine v_iconst (v := (4 : Int32)) C eX12_place_38 (by decide) ?_
      refine v_icmp_ge (tgt := 58) C eX12_place_39 (by decide) (fun h => absurd h (ix_nle (a := 4) (b := i) (rfl : (4 : Int32) = nI 4) (rfl : nI i = nI i) (by omega) (by omega) (by omega))) (fun _ => ?_)
      refine v_aload_n C eX12_place_42 rfl 0 rfl ?_
      refine n_get C I fX12_81_X12 eX12_place_43 (hN 49 (by decide)) h49 rfl ?_
      refine v_iconst (v := (4 : Int32)) C eX12_place_46 (by decide) ?_
      refine v_iload C eX12_place_47 3 rfl ?_
      refine v_iadd C eX12_place_49 ?_
      refine v_iconst (v := (0 : Int32)) C eX12_place_50 (by decide) ?_
      refine n_bast C I eX12_place_51 (hN 28 (by decide)) rfl (4 + i) (ix_add (a := 4) (b := i) (rfl : (4 : Int32) = nI 4) (rfl : nI i = nI i)) (by omega) (by decide) ?_
      refine v_iinc (lv' := [(0, .ref (ad 49)), (1, .int ly), (2, .long tr), (4, .int (nI (i + 1)))]) C eX12_place_52 3 rfl (ix_inc _) (by decide) [1, 2, 3, 0] rfl ?_
      refine v_goto (tgt := 36) C eX12_place_55 (by decide) ?_
      refine v_eq (w' := nW ad N (va_up σ 28 (eB G 32 (upd (plB i (plA ly 4 A)) (4 + i) (vp_nar .byte ((0 : Int32))))))) (congrArg (nW ad N) (n_extL [28] ⟨rfl, trivial⟩ (fun q h => by simp only [List.mem_cons, List.not_mem_nil, or_false, not_or] at h; simp [va_up, h]))) rfl rfl ?_
      exact ih
  · intro i hi ih
    refine v_iload C eX12_place_3 3 rfl ?_
    refine v_iconst (v := (4 : Int32)) C eX12_place_5 (by decide) ?_
    refine v_icmp_ge (tgt := 33) C eX12_place_6 (by decide) (fun h => absurd h (ix_nle (a := 4) (b := i) (rfl : (4 : Int32) = nI 4) (rfl : nI i = nI i) (by omega) (by omega) (by omega))) (fun _ => ?_)
    refine v_aload_n C eX12_place_9 rfl 0 rfl ?_
    refine n_get C I fX12_81_X12 eX12_place_10 (hN 49 (by decide)) h49 rfl ?_
    refine v_iload C eX12_place_13 3 rfl ?_
    refine v_iload_n C eX12_place_15 rfl 1 rfl ?_
    refine v_bipush (v := (24 : Int32)) C eX12_place_16 (by decide) ?_
    refine v_bipush (v := (8 : Int32)) C eX12_place_18 (by decide) ?_
    refine v_iload C eX12_place_20 3 rfl ?_
    refine v_imul C eX12_place_22 ?_
    refine v_isub C eX12_place_23 ?_
    refine v_natT (show ((24 : Int32)) - (((8 : Int32)) * (nI i)) = nI (24 - (8 * i)) from (ix_sub (a := 24) (b := 8 * i) (rfl : (24 : Int32) = nI 24) (ix_mul (a := 8) (b := i) (rfl : (8 : Int32) = nI 8) (rfl : nI i = nI i)) (by omega))) ?_
    refine v_ishr C eX12_place_24 ?_
    refine v_i2b C eX12_place_25 ?_
    refine n_bast C I eX12_place_26 (hN 28 (by decide)) rfl i (rfl : nI i = nI i) (by omega) (by decide) ?_
    refine v_iinc (lv' := [(0, .ref (ad 49)), (1, .int ly), (2, .long tr), (4, .int (nI (i + 1)))]) C eX12_place_27 3 rfl (ix_inc _) (by decide) [1, 2, 3, 0] rfl ?_
    refine v_goto (tgt := 3) C eX12_place_30 (by decide) ?_
    refine v_eq (w' := nW ad N (va_up σ 28 (eB G 32 (upd (plA ly i A) i (vp_nar .byte ((ly >>> ((nI (24 - (8 * i))) &&& 31)).toInt8.toInt32)))))) (congrArg (nW ad N) (n_extL [28] ⟨rfl, trivial⟩ (fun q h => by simp only [List.mem_cons, List.not_mem_nil, or_false, not_or] at h; simp [va_up, h]))) rfl rfl ?_
    exact ih

end M8
end
section
theorem eX12_hashed_0 : vD cX12_hashed 0 (.aload_n 0) 1 1 := ⟨by decide +kernel, rfl⟩
theorem eX12_hashed_1 : vD cX12_hashed 1 (.getfield 264) 3 4 := ⟨by decide +kernel, rfl⟩
theorem eX12_hashed_4 : vD cX12_hashed 4 (.ifCond .eq 36) 3 7 := ⟨by decide +kernel, rfl⟩
theorem eX12_hashed_7 : vD cX12_hashed 7 (.aload_n 0) 1 8 := ⟨by decide +kernel, rfl⟩
theorem eX12_hashed_8 : vD cX12_hashed 8 (.bipush 12) 2 10 := ⟨by decide +kernel, rfl⟩
theorem eX12_hashed_10 : vD cX12_hashed 10 (.invokevirtual 166) 3 13 := ⟨by decide +kernel, rfl⟩
theorem eX12_hashed_13 : vD cX12_hashed 13 (.aload_n 0) 1 14 := ⟨by decide +kernel, rfl⟩
theorem eX12_hashed_14 : vD cX12_hashed 14 (.aload_n 0) 1 15 := ⟨by decide +kernel, rfl⟩
theorem eX12_hashed_15 : vD cX12_hashed 15 (.getfield 108) 3 18 := ⟨by decide +kernel, rfl⟩
theorem eX12_hashed_18 : vD cX12_hashed 18 (.iconst 0) 1 19 := ⟨by decide +kernel, rfl⟩
theorem eX12_hashed_19 : vD cX12_hashed 19 (.aload_n 0) 1 20 := ⟨by decide +kernel, rfl⟩
theorem eX12_hashed_20 : vD cX12_hashed 20 (.getfield 243) 3 23 := ⟨by decide +kernel, rfl⟩
theorem eX12_hashed_23 : vD cX12_hashed 23 (.invokevirtual 233) 3 26 := ⟨by decide +kernel, rfl⟩
theorem eX12_hashed_26 : vD cX12_hashed 26 (.aload_n 0) 1 27 := ⟨by decide +kernel, rfl⟩
theorem eX12_hashed_27 : vD cX12_hashed 27 (.aload_n 0) 1 28 := ⟨by decide +kernel, rfl⟩
theorem eX12_hashed_28 : vD cX12_hashed 28 (.getfield 81) 3 31 := ⟨by decide +kernel, rfl⟩
theorem eX12_hashed_31 : vD cX12_hashed 31 (.iconst 0) 1 32 := ⟨by decide +kernel, rfl⟩
theorem eX12_hashed_32 : vD cX12_hashed 32 (.bipush 32) 2 34 := ⟨by decide +kernel, rfl⟩
theorem eX12_hashed_34 : vD cX12_hashed 34 (.invokevirtual 233) 3 37 := ⟨by decide +kernel, rfl⟩
theorem eX12_hashed_37 : vD cX12_hashed 37 (.goto 157) 3 40 := ⟨by decide +kernel, rfl⟩
theorem eX12_hashed_40 : vD cX12_hashed 40 (.aload_n 0) 1 41 := ⟨by decide +kernel, rfl⟩
theorem eX12_hashed_41 : vD cX12_hashed 41 (.getfield 243) 3 44 := ⟨by decide +kernel, rfl⟩
theorem eX12_hashed_44 : vD cX12_hashed 44 (.bipush 16) 2 46 := ⟨by decide +kernel, rfl⟩
theorem eX12_hashed_46 : vD cX12_hashed 46 (.if_icmp .le 38) 3 49 := ⟨by decide +kernel, rfl⟩
theorem eX12_hashed_49 : vD cX12_hashed 49 (.iload_n 3) 1 50 := ⟨by decide +kernel, rfl⟩
theorem eX12_hashed_50 : vD cX12_hashed 50 (.aload_n 0) 1 51 := ⟨by decide +kernel, rfl⟩
theorem eX12_hashed_51 : vD cX12_hashed 51 (.getfield 243) 3 54 := ⟨by decide +kernel, rfl⟩
theorem eX12_hashed_54 : vD cX12_hashed 54 (.if_icmp .le 30) 3 57 := ⟨by decide +kernel, rfl⟩
theorem eX12_hashed_57 : vD cX12_hashed 57 (.aload_n 0) 1 58 := ⟨by decide +kernel, rfl⟩
theorem eX12_hashed_58 : vD cX12_hashed 58 (.getfield 81) 3 61 := ⟨by decide +kernel, rfl⟩
theorem eX12_hashed_61 : vD cX12_hashed 61 (.bipush 19) 2 63 := ⟨by decide +kernel, rfl⟩
theorem eX12_hashed_63 : vD cX12_hashed 63 .baload 1 64 := ⟨by decide +kernel, rfl⟩
theorem eX12_hashed_64 : vD cX12_hashed 64 (.iconst 5) 1 65 := ⟨by decide +kernel, rfl⟩
theorem eX12_hashed_65 : vD cX12_hashed 65 (.if_icmp .eq 19) 3 68 := ⟨by decide +kernel, rfl⟩
theorem eX12_hashed_68 : vD cX12_hashed 68 (.aload_n 0) 1 69 := ⟨by decide +kernel, rfl⟩
theorem eX12_hashed_69 : vD cX12_hashed 69 (.getfield 81) 3 72 := ⟨by decide +kernel, rfl⟩
theorem eX12_hashed_72 : vD cX12_hashed 72 (.bipush 19) 2 74 := ⟨by decide +kernel, rfl⟩
theorem eX12_hashed_74 : vD cX12_hashed 74 .baload 1 75 := ⟨by decide +kernel, rfl⟩
theorem eX12_hashed_75 : vD cX12_hashed 75 (.bipush 6) 2 77 := ⟨by decide +kernel, rfl⟩
theorem eX12_hashed_77 : vD cX12_hashed 77 (.if_icmp .eq 7) 3 80 := ⟨by decide +kernel, rfl⟩
theorem eX12_hashed_80 : vD cX12_hashed 80 (.iconst 1) 1 81 := ⟨by decide +kernel, rfl⟩
theorem eX12_hashed_81 : vD cX12_hashed 81 (.goto 4) 3 84 := ⟨by decide +kernel, rfl⟩
theorem eX12_hashed_84 : vD cX12_hashed 84 (.iconst 0) 1 85 := ⟨by decide +kernel, rfl⟩
theorem eX12_hashed_85 : vD cX12_hashed 85 (.istore 6) 2 87 := ⟨by decide +kernel, rfl⟩
theorem eX12_hashed_87 : vD cX12_hashed 87 (.aload_n 0) 1 88 := ⟨by decide +kernel, rfl⟩
theorem eX12_hashed_88 : vD cX12_hashed 88 (.iload 6) 2 90 := ⟨by decide +kernel, rfl⟩
theorem eX12_hashed_90 : vD cX12_hashed 90 (.ifCond .eq 7) 3 93 := ⟨by decide +kernel, rfl⟩
theorem eX12_hashed_93 : vD cX12_hashed 93 (.iconst 3) 1 94 := ⟨by decide +kernel, rfl⟩
theorem eX12_hashed_94 : vD cX12_hashed 94 (.goto 4) 3 97 := ⟨by decide +kernel, rfl⟩
theorem eX12_hashed_97 : vD cX12_hashed 97 (.iconst 1) 1 98 := ⟨by decide +kernel, rfl⟩
theorem eX12_hashed_98 : vD cX12_hashed 98 (.invokevirtual 166) 3 101 := ⟨by decide +kernel, rfl⟩
theorem eX12_hashed_101 : vD cX12_hashed 101 (.aload_n 0) 1 102 := ⟨by decide +kernel, rfl⟩
theorem eX12_hashed_102 : vD cX12_hashed 102 (.aload_n 0) 1 103 := ⟨by decide +kernel, rfl⟩
theorem eX12_hashed_103 : vD cX12_hashed 103 (.getfield 108) 3 106 := ⟨by decide +kernel, rfl⟩
theorem eX12_hashed_106 : vD cX12_hashed 106 (.iconst 0) 1 107 := ⟨by decide +kernel, rfl⟩
theorem eX12_hashed_107 : vD cX12_hashed 107 (.aload_n 0) 1 108 := ⟨by decide +kernel, rfl⟩
theorem eX12_hashed_108 : vD cX12_hashed 108 (.getfield 243) 3 111 := ⟨by decide +kernel, rfl⟩
theorem eX12_hashed_111 : vD cX12_hashed 111 (.invokevirtual 233) 3 114 := ⟨by decide +kernel, rfl⟩
theorem eX12_hashed_114 : vD cX12_hashed 114 (.aload_n 0) 1 115 := ⟨by decide +kernel, rfl⟩
theorem eX12_hashed_115 : vD cX12_hashed 115 (.getfield 243) 3 118 := ⟨by decide +kernel, rfl⟩
theorem eX12_hashed_118 : vD cX12_hashed 118 (.istore 7) 2 120 := ⟨by decide +kernel, rfl⟩
theorem eX12_hashed_120 : vD cX12_hashed 120 (.iload 7) 2 122 := ⟨by decide +kernel, rfl⟩
theorem eX12_hashed_122 : vD cX12_hashed 122 (.iload 6) 2 124 := ⟨by decide +kernel, rfl⟩
theorem eX12_hashed_124 : vD cX12_hashed 124 (.ifCond .eq 9) 3 127 := ⟨by decide +kernel, rfl⟩
theorem eX12_hashed_127 : vD cX12_hashed 127 (.sipush 128) 3 130 := ⟨by decide +kernel, rfl⟩
theorem eX12_hashed_130 : vD cX12_hashed 130 (.goto 5) 3 133 := ⟨by decide +kernel, rfl⟩
theorem eX12_hashed_133 : vD cX12_hashed 133 (.bipush 64) 2 135 := ⟨by decide +kernel, rfl⟩
theorem eX12_hashed_135 : vD cX12_hashed 135 (.if_icmp .ge 14) 3 138 := ⟨by decide +kernel, rfl⟩
theorem eX12_hashed_138 : vD cX12_hashed 138 (.aload_n 0) 1 139 := ⟨by decide +kernel, rfl⟩
theorem eX12_hashed_139 : vD cX12_hashed 139 (.iconst 0) 1 140 := ⟨by decide +kernel, rfl⟩
theorem eX12_hashed_140 : vD cX12_hashed 140 (.invokevirtual 171) 3 143 := ⟨by decide +kernel, rfl⟩
theorem eX12_hashed_143 : vD cX12_hashed 143 (.iinc 7 1) 3 146 := ⟨by decide +kernel, rfl⟩
theorem eX12_hashed_146 : vD cX12_hashed 146 (.goto (-26)) 3 149 := ⟨by decide +kernel, rfl⟩
theorem eX12_hashed_149 : vD cX12_hashed 149 (.aload_n 0) 1 150 := ⟨by decide +kernel, rfl⟩
theorem eX12_hashed_150 : vD cX12_hashed 150 (.aload_n 0) 1 151 := ⟨by decide +kernel, rfl⟩
theorem eX12_hashed_151 : vD cX12_hashed 151 (.getfield 81) 3 154 := ⟨by decide +kernel, rfl⟩
theorem eX12_hashed_154 : vD cX12_hashed 154 (.iconst 3) 1 155 := ⟨by decide +kernel, rfl⟩
theorem eX12_hashed_155 : vD cX12_hashed 155 .baload 1 156 := ⟨by decide +kernel, rfl⟩
theorem eX12_hashed_156 : vD cX12_hashed 156 (.invokevirtual 171) 3 159 := ⟨by decide +kernel, rfl⟩
theorem eX12_hashed_159 : vD cX12_hashed 159 (.aload_n 0) 1 160 := ⟨by decide +kernel, rfl⟩
theorem eX12_hashed_160 : vD cX12_hashed 160 (.aload_n 0) 1 161 := ⟨by decide +kernel, rfl⟩
theorem eX12_hashed_161 : vD cX12_hashed 161 (.getfield 81) 3 164 := ⟨by decide +kernel, rfl⟩
theorem eX12_hashed_164 : vD cX12_hashed 164 (.bipush 8) 2 166 := ⟨by decide +kernel, rfl⟩
theorem eX12_hashed_166 : vD cX12_hashed 166 (.bipush 8) 2 168 := ⟨by decide +kernel, rfl⟩
theorem eX12_hashed_168 : vD cX12_hashed 168 (.invokevirtual 233) 3 171 := ⟨by decide +kernel, rfl⟩
theorem eX12_hashed_171 : vD cX12_hashed 171 (.aload_n 0) 1 172 := ⟨by decide +kernel, rfl⟩
theorem eX12_hashed_172 : vD cX12_hashed 172 (.aload_n 0) 1 173 := ⟨by decide +kernel, rfl⟩
theorem eX12_hashed_173 : vD cX12_hashed 173 (.getfield 81) 3 176 := ⟨by decide +kernel, rfl⟩
theorem eX12_hashed_176 : vD cX12_hashed 176 (.bipush 19) 2 178 := ⟨by decide +kernel, rfl⟩
theorem eX12_hashed_178 : vD cX12_hashed 178 .baload 1 179 := ⟨by decide +kernel, rfl⟩
theorem eX12_hashed_179 : vD cX12_hashed 179 (.invokevirtual 171) 3 182 := ⟨by decide +kernel, rfl⟩
theorem eX12_hashed_182 : vD cX12_hashed 182 (.aload_n 0) 1 183 := ⟨by decide +kernel, rfl⟩
theorem eX12_hashed_183 : vD cX12_hashed 183 (.aload_n 0) 1 184 := ⟨by decide +kernel, rfl⟩
theorem eX12_hashed_184 : vD cX12_hashed 184 (.getfield 81) 3 187 := ⟨by decide +kernel, rfl⟩
theorem eX12_hashed_187 : vD cX12_hashed 187 (.bipush 20) 2 189 := ⟨by decide +kernel, rfl⟩
theorem eX12_hashed_189 : vD cX12_hashed 189 (.bipush 12) 2 191 := ⟨by decide +kernel, rfl⟩
theorem eX12_hashed_191 : vD cX12_hashed 191 (.invokevirtual 233) 3 194 := ⟨by decide +kernel, rfl⟩
theorem eX12_hashed_194 : vD cX12_hashed 194 (.aload_n 0) 1 195 := ⟨by decide +kernel, rfl⟩
theorem eX12_hashed_195 : vD cX12_hashed 195 (.aload_n 1) 1 196 := ⟨by decide +kernel, rfl⟩
theorem eX12_hashed_196 : vD cX12_hashed 196 (.iload_n 2) 1 197 := ⟨by decide +kernel, rfl⟩
theorem eX12_hashed_197 : vD cX12_hashed 197 (.iload_n 3) 1 198 := ⟨by decide +kernel, rfl⟩
theorem eX12_hashed_198 : vD cX12_hashed 198 (.invokevirtual 233) 3 201 := ⟨by decide +kernel, rfl⟩
theorem eX12_hashed_201 : vD cX12_hashed 201 (.aload_n 0) 1 202 := ⟨by decide +kernel, rfl⟩
theorem eX12_hashed_202 : vD cX12_hashed 202 (.aload 4) 2 204 := ⟨by decide +kernel, rfl⟩
theorem eX12_hashed_204 : vD cX12_hashed 204 (.iload 5) 2 206 := ⟨by decide +kernel, rfl⟩
theorem eX12_hashed_206 : vD cX12_hashed 206 (.aload_n 0) 1 207 := ⟨by decide +kernel, rfl⟩
theorem eX12_hashed_207 : vD cX12_hashed 207 (.getfield 243) 3 210 := ⟨by decide +kernel, rfl⟩
theorem eX12_hashed_210 : vD cX12_hashed 210 (.invokevirtual 236) 3 213 := ⟨by decide +kernel, rfl⟩
theorem eX12_hashed_213 : vD cX12_hashed 213 .return_ 1 214 := ⟨by decide +kernel, rfl⟩

/-- a hash over publicSeed, the address and the row's part: what stands behind it (kind 12) -/
def hs12 (T : Nat → Int32) (Rc K Rt : Nat → Int64) (nn : Nat) (P A f : Nat → Int32) (a m : Nat) (h : hT) : hT := hPutN T Rc K 12 f a m (hPutN T Rc K 12 A 0 32 (hPutN T Rc K 12 P 0 nn (hBeg 12 Rt h)))
/-- what comes of it from a place on -/
def hr12 (T : Nat → Int32) (Rc K Rt : Nat → Int64) (nn : Nat) (P A f : Nat → Int32) (a m : Nat) (h : hT) (b : Nat) (g : Nat → Int32) : Nat → Int32 := gvF 12 (hFin T Rc K 12 (hs12 T Rc K Rt nn P A f a m h)).1 b nn g
section M9
variable {G : vG} {B : Nat} {l : Launch} {ad : Nat → Nat} {N : Nat}
theorem n_ag {x : Nat → Int32} {u v w : Int32} : ∀ j, j ≠ 18 → j ≠ 19 → j ≠ 20 → upd (upd (upd x 18 u) 19 v) 20 w j = x j := fun j h1 h2 h3 => by simp [upd, h1, h2, h3]
set_option maxRecDepth 100000 in
set_option maxHeartbeats 4000000 in
theorem c_hashed12 (I : nI1 ad N) (hN : ∀ k, k < 74 → k < N) {σ : nS} {x T : Nat → Int32} {Rc K Rt : Nat → Int64} {P A f fo : Nat → Int32} {kx nx ko no nn : Nat} (h11 : σ 11 = eI G 25 T) (h12 : σ 12 = eJ G 24 Rc) (h6 : σ 6 = eJ G 80 K) (h5 : σ 5 = eJ G 16 Rt) (h37 : σ 37 = eB G 32 P) (h28 : σ 28 = eB G 32 A) (hkx : kx < N) (hkx1 : kx ∉ [13, 14, 15, 16, 17, 49]) (hx : σ kx = eB G nx f) (hko : ko < N) (hko1 : ko ∉ [13, 14, 15, 16, 17, 49]) (hko2 : ko ∉ [6, 11, 12]) (ho : σ ko = eB G no fo) (h41 : x 41 = nI nn) (hnn : nn ≤ 32) (a mm b : Nat) (ha : a + mm ≤ nx) (hnx : nx < 2 ^ 31) (hb : b + nn ≤ no) (hno : no < 2 ^ 31) (h48 : x 48 = 1) (S O D W : Nat → Int64) (Bk : Nat → Int32) (fl : Nat) (tt : Int64) : nOk G B l ad N yX12_hashed cX12_hashed 8 none 5 0 0 [.ref (ad 49), .ref (ad kx), .int (nI a), .int (nI mm), .ref (ad ko), .int (nI b)] (gσ G ad σ x (S, O, D, W, Bk, fl, tt)) (fun r σ' => r = none ∧ ∃ (x' : Nat → Int32) (h' : hT), (∀ j, j ≠ 18 → j ≠ 19 → j ≠ 20 → x' j = x j) ∧ σ' = gσ G ad (va_up σ ko (eB G no (hr12 T Rc K Rt nn P A f a mm (S, O, D, W, Bk, fl, tt) b fo))) x' h') := by
  refine vOk.of (by decide +kernel) (Nat.le_of_ble_eq_true rfl) ?_
  intro p e s m args below meth c C
  refine v_eq (lv' := [(0, .ref (ad 49)), (1, .ref (ad kx)), (2, .int (nI a)), (3, .int (nI mm)), (4, .ref (ad ko)), (5, .int (nI b))]) rfl rfl rfl ?_
  have hk : 12 = 1 ∨ 12 = 3 ∨ 12 = 12 := by decide
  refine v_aload_n C eX12_hashed_0 rfl 0 rfl ?_
  refine n_get C I fX12_264_X12 eX12_hashed_1 (hN 49 (by decide)) rfl rfl ?_
  refine v_if_eq (tgt := 40) C eX12_hashed_4 (by decide) (fun h => absurd h (by rw [h48]; decide)) (fun _ => ?_)
  refine v_aload_n C eX12_hashed_7 rfl 0 rfl ?_
  refine v_bipush (v := nI 12) C eX12_hashed_8 (by decide) ?_
  refine n_callV (As := [.int (nI 12)]) (rest := []) C I mX12_166 (c_begin12 I hN h11 h12 h6 h5 S O D W Bk fl tt) (hN 49 (by decide)) rfl rfl (by decide) (by decide) ⟨by decide, by decide⟩ rfl rfl (Nat.le_of_ble_eq_true rfl) eX12_hashed_10 (fun r σ' hp => ?_)
  obtain ⟨rfl, rfl⟩ := hp
  have hf0 : (hBeg 12 Rt (S, O, D, W, Bk, fl, tt)).2.2.2.2.2.1 < rateK 12 := by show 0 < rateK 12; decide
  generalize hg0 : hBeg 12 Rt (S, O, D, W, Bk, fl, tt) = g0 at hf0
  refine v_aload_n C eX12_hashed_13 rfl 0 rfl ?_
  refine v_aload_n C eX12_hashed_14 rfl 0 rfl ?_
  refine n_get C I fX12_108_X12 eX12_hashed_15 (hN 49 (by decide)) rfl rfl ?_
  refine v_iconst (v := (0 : Int32)) C eX12_hashed_18 (by decide) ?_
  refine v_aload_n C eX12_hashed_19 rfl 0 rfl ?_
  refine n_get C I fX12_243_X12 eX12_hashed_20 (hN 49 (by decide)) rfl rfl ?_
  refine v_natT h41 ?_
  refine v_eq (st' := [.int (nI nn), .int (nI 0), .ref (ad 37), .ref (ad 49)]) rfl rfl rfl ?_
  refine n_callV (As := [.ref (ad 37), .int (nI 0), .int (nI nn)]) (rest := []) C I mX12_233 (c_putA I hN h11 h12 h6 hk g0 hf0 (hN 37 (by decide)) (by decide) h37 0 nn (by omega) (by decide)) (hN 49 (by decide)) rfl rfl (by decide) (by decide) ⟨by decide, by decide⟩ rfl rfl (Nat.le_of_ble_eq_true rfl) eX12_hashed_23 (fun r σ' hp => ?_)
  obtain ⟨rfl, rfl⟩ := hp
  have hf1 := hPutN_lt (T := T) (Rc := Rc) (K := K) hk P 0 g0 hf0 nn
  generalize hg1 : hPutN T Rc K 12 P 0 nn g0 = g1 at hf1
  refine v_aload_n C eX12_hashed_26 rfl 0 rfl ?_
  refine v_aload_n C eX12_hashed_27 rfl 0 rfl ?_
  refine n_get C I fX12_81_X12 eX12_hashed_28 (hN 49 (by decide)) rfl rfl ?_
  refine v_iconst (v := (0 : Int32)) C eX12_hashed_31 (by decide) ?_
  refine v_bipush (v := (32 : Int32)) C eX12_hashed_32 (by decide) ?_
  refine v_eq (st' := [.int (nI 32), .int (nI 0), .ref (ad 28), .ref (ad 49)]) rfl rfl rfl ?_
  refine n_callV (As := [.ref (ad 28), .int (nI 0), .int (nI 32)]) (rest := []) C I mX12_233 (c_putA I hN h11 h12 h6 hk g1 hf1 (hN 28 (by decide)) (by decide) h28 0 32 (by decide) (by decide)) (hN 49 (by decide)) rfl rfl (by decide) (by decide) ⟨by decide, by decide⟩ rfl rfl (Nat.le_of_ble_eq_true rfl) eX12_hashed_34 (fun r σ' hp => ?_)
  obtain ⟨rfl, rfl⟩ := hp
  have hf2 := hPutN_lt (T := T) (Rc := Rc) (K := K) hk A 0 g1 hf1 32
  generalize hg2 : hPutN T Rc K 12 A 0 32 g1 = g2 at hf2
  refine v_goto (tgt := 194) C eX12_hashed_37 (by decide) ?_
  refine v_aload_n C eX12_hashed_194 rfl 0 rfl ?_
  refine v_aload_n C eX12_hashed_195 rfl 1 rfl ?_
  refine v_iload_n C eX12_hashed_196 rfl 2 rfl ?_
  refine v_iload_n C eX12_hashed_197 rfl 3 rfl ?_
  refine n_callV (As := [.ref (ad kx), .int (nI a), .int (nI mm)]) (rest := []) C I mX12_233 (c_putA I hN h11 h12 h6 hk g2 hf2 hkx hkx1 hx a mm ha hnx) (hN 49 (by decide)) rfl rfl (by decide) (by decide) ⟨by decide, by decide⟩ rfl rfl (Nat.le_of_ble_eq_true rfl) eX12_hashed_198 (fun r σ' hp => ?_)
  obtain ⟨rfl, rfl⟩ := hp
  have hf3 := hPutN_lt (T := T) (Rc := Rc) (K := K) hk f a g2 hf2 mm
  generalize hg3 : hPutN T Rc K 12 f a mm g2 = g3 at hf3
  refine v_aload_n C eX12_hashed_201 rfl 0 rfl ?_
  refine v_aload C eX12_hashed_202 4 rfl ?_
  refine v_iload C eX12_hashed_204 5 rfl ?_
  refine v_aload_n C eX12_hashed_206 rfl 0 rfl ?_
  refine n_get C I fX12_243_X12 eX12_hashed_207 (hN 49 (by decide)) rfl rfl ?_
  refine v_natT h41 ?_
  refine n_callV (As := [.ref (ad ko), .int (nI b), .int (nI nn)]) (rest := []) C I mX12_236 (c_give12 I hN h11 h12 h6 g3 hf3 hko hko1 hko2 ho b nn (by omega) hb hno) (hN 49 (by decide)) rfl rfl (by decide) (by decide) ⟨by decide, by decide⟩ rfl rfl (Nat.le_of_ble_eq_true rfl) eX12_hashed_210 (fun r σ' hp => ?_)
  obtain ⟨rfl, rfl⟩ := hp
  exact n_vret C rfl eX12_hashed_213 ⟨rfl, _, _, n_ag, by rw [← hg3, ← hg2, ← hg1, ← hg0]; rfl⟩

end M9
end
section
def hs2 (T : Nat → Int32) (Rc K Rt : Nat → Int64) (k nn : Nat) (P A f : Nat → Int32) (a m : Nat) (h : hT) : hT :=
  hPutN T Rc K k f a m (hPutN T Rc K k A 20 12 (hPut T Rc K k (A 19) (hPutN T Rc K k A 8 8 (hPut T Rc K k (A 3) (hZero T Rc K k (rateK k - nn) (hPutN T Rc K k P 0 nn (hBeg k Rt h)))))))
def hr2 (T : Nat → Int32) (Rc K Rt : Nat → Int64) (k nn : Nat) (P A f : Nat → Int32) (a m : Nat) (h : hT) (b : Nat) (g : Nat → Int32) : Nat → Int32 := gvF k (hFin T Rc K k (hs2 T Rc K Rt k nn P A f a m h)).1 b nn g
theorem hZero_lt {T : Nat → Int32} {Rc K : Nat → Int64} {k : Nat} (hk : k = 1 ∨ k = 3 ∨ k = 12) (h : hT) (hf : h.2.2.2.2.2.1 < rateK k) : ∀ n, (hZero T Rc K k n h).2.2.2.2.2.1 < rateK k
  | 0 => hf
  | n + 1 => hPut_lt hk _ _ (hZero_lt hk h hf n)
section M10
variable {G : vG} {B : Nat} {l : Launch} {ad : Nat → Nat} {N : Nat}
set_option maxRecDepth 100000 in
set_option maxHeartbeats 4000000 in
theorem hs_tail1 (I : nI1 ad N) (hN : ∀ k, k < 74 → k < N) {σ : nS} {p : Program} {e : Env} {R : Room} {s : State} {m : MethodId} {args : Array Value} {below : List Frame} {meth : Method} {c : Code} {cells slots : Nat} {Q : State → Prop} (C : vC G B p m meth c cX12_hashed 8 none s args yX12_hashed.cls) {d1 mc1 ms1 : Nat} (hR : R = vRm d1 mc1 ms1) (hdd : 5 ≤ d1) (hrc : cells + 0 ≤ mc1) (hrs : slots + 0 ≤ ms1) {x T : Nat → Int32} {Rc K Rt : Nat → Int64} {P A f fo : Nat → Int32} {kx nx ko no nn : Nat} (h11 : σ 11 = eI G 25 T) (h12 : σ 12 = eJ G 24 Rc) (h6 : σ 6 = eJ G 80 K) (h5 : σ 5 = eJ G 16 Rt) (h37 : σ 37 = eB G 32 P) (h28 : σ 28 = eB G 32 A) (hkx : kx < N) (hkx1 : kx ∉ [13, 14, 15, 16, 17, 49]) (hx : σ kx = eB G nx f) (hko : ko < N) (hko1 : ko ∉ [13, 14, 15, 16, 17, 49]) (hko2 : ko ∉ [6, 11, 12]) (ho : σ ko = eB G no fo) (h41 : x 41 = nI nn) (hnn : nn ≤ 32)  (a mm b : Nat) (ha : a + mm ≤ nx) (hnx : nx < 2 ^ 31) (hb : b + nn ≤ no) (hno : no < 2 ^ 31) (S O D W : Nat → Int64) (Bk : Nat → Int32) (fl : Nat) (tt : Int64) (kk : V G B p l e R s m args below meth c 8 (cells + 0 + 0 + 0 + 0 + 0 + 0 + 0 + 0) (slots + 0 + 0 + 0 + 0 + 0 + 0 + 0 + 0) Q (nW ad N (hσ G ad (va_up σ ko (eB G no (hr2 T Rc K Rt 1 nn P A f a mm (S, O, D, W, Bk, fl, tt) b fo))) x 1 (hFin T Rc K 1 (hs2 T Rc K Rt 1 nn P A f a mm (S, O, D, W, Bk, fl, tt))))) 213 [(0, .ref (ad 49)), (1, .ref (ad kx)), (2, .int (nI a)), (3, .int (nI mm)), (4, .ref (ad ko)), (5, .int (nI b)), (6, .int ((0 : Int32))), (7, .int (nI (nn + (64 - nn))))] []) : V G B p l e R s m args below meth c 8 cells slots Q (nW ad N (gσ G ad σ x (S, O, D, W, Bk, fl, tt))) 87 [(0, .ref (ad 49)), (1, .ref (ad kx)), (2, .int (nI a)), (3, .int (nI mm)), (4, .ref (ad ko)), (5, .int (nI b)), (6, .int ((0 : Int32)))] [] := by
  have hk : 1 = 1 ∨ 1 = 3 ∨ 1 = 12 := by decide
  refine v_aload_n C eX12_hashed_87 rfl 0 rfl ?_
  refine v_iload C eX12_hashed_88 6 rfl ?_
  refine v_if_eq (tgt := 97) C eX12_hashed_90 (by decide) (fun _ => ?_) (fun h => absurd (by decide) h)
  refine v_iconst (v := nI 1) C eX12_hashed_97 (by decide) ?_
  refine n_callV (As := [.int (nI 1)]) (rest := []) C I mX12_166 (c_begin1 I hN h11 h12 h6 h5 S O D W Bk fl tt) (hN 49 (by decide)) rfl hR (by omega) (by decide) ⟨hrc, hrs⟩ rfl rfl (Nat.le_of_ble_eq_true rfl) eX12_hashed_98 (fun r σ' hp => ?_)
  obtain ⟨rfl, rfl⟩ := hp
  have hf0 : (hBeg 1 Rt (S, O, D, W, Bk, fl, tt)).2.2.2.2.2.1 < rateK 1 := by show 0 < rateK 1; decide
  generalize hg0 : hBeg 1 Rt (S, O, D, W, Bk, fl, tt) = g0 at hf0
  refine v_aload_n C eX12_hashed_101 rfl 0 rfl ?_
  refine v_aload_n C eX12_hashed_102 rfl 0 rfl ?_
  refine n_get C I fX12_108_X12 eX12_hashed_103 (hN 49 (by decide)) rfl rfl ?_
  refine v_iconst (v := (0 : Int32)) C eX12_hashed_106 (by decide) ?_
  refine v_aload_n C eX12_hashed_107 rfl 0 rfl ?_
  refine n_get C I fX12_243_X12 eX12_hashed_108 (hN 49 (by decide)) rfl rfl ?_
  refine v_natT h41 ?_
  refine v_eq (st' := [.int (nI nn), .int (nI 0), .ref (ad 37), .ref (ad 49)]) rfl rfl rfl ?_
  refine n_callV (As := [.ref (ad 37), .int (nI 0), .int (nI nn)]) (rest := []) C I mX12_233 (c_putA I hN h11 h12 h6 hk g0 hf0 (hN 37 (by decide)) (by decide) h37 0 nn (by omega) (by decide)) (hN 49 (by decide)) rfl hR (by omega) (by decide) ⟨hrc, hrs⟩ rfl rfl (Nat.le_of_ble_eq_true rfl) eX12_hashed_111 (fun r σ' hp => ?_)
  obtain ⟨rfl, rfl⟩ := hp
  have hf1 := hPutN_lt (T := T) (Rc := Rc) (K := K) hk P 0 g0 hf0 nn
  generalize hg1 : hPutN T Rc K 1 P 0 nn g0 = g1 at hf1
  refine v_aload_n C eX12_hashed_114 rfl 0 rfl ?_
  refine n_get C I fX12_243_X12 eX12_hashed_115 (hN 49 (by decide)) rfl rfl ?_
  refine v_natT h41 ?_
  refine v_istore (lv' := [(0, .ref (ad 49)), (1, .ref (ad kx)), (2, .int (nI a)), (3, .int (nI mm)), (4, .ref (ad ko)), (5, .int (nI b)), (6, .int ((0 : Int32))), (7, .int (nI nn))]) C eX12_hashed_118 (by decide) [1, 2, 3, 4, 5, 6, 7, 0] rfl ?_
  refine v_forV (fun i => hσ G ad σ x 1 (hZero T Rc K 1 i g1)) (fun i => [(0, .ref (ad 49)), (1, .ref (ad kx)), (2, .int (nI a)), (3, .int (nI mm)), (4, .ref (ad ko)), (5, .int (nI b)), (6, .int ((0 : Int32))), (7, .int (nI (nn + i)))]) (64 - nn) ?_ ?_
  · refine v_iload C eX12_hashed_120 7 rfl ?_
    refine v_iload C eX12_hashed_122 6 rfl ?_
    refine v_if_eq (tgt := 133) C eX12_hashed_124 (by decide) (fun _ => ?_) (fun h => absurd (by decide) h)
    refine v_bipush (v := (64 : Int32)) C eX12_hashed_133 (by decide) ?_
    refine v_icmp_ge (tgt := 149) C eX12_hashed_135 (by decide) (fun _ => ?_) (fun h => absurd (ix_le (a := 64) (b := nn + (64 - nn)) (rfl : (64 : Int32) = nI 64) (rfl : nI (nn + (64 - nn)) = nI (nn + (64 - nn))) (by omega) (by omega) (by omega)) h)
    have hf2 := hZero_lt (T := T) (Rc := Rc) (K := K) hk g1 hf1 (64 - nn)
    generalize hg2 : hZero T Rc K 1 (64 - nn) g1 = g2 at hf2 ⊢
    refine v_aload_n C eX12_hashed_149 rfl 0 rfl ?_
    refine v_aload_n C eX12_hashed_150 rfl 0 rfl ?_
    refine n_get C I fX12_81_X12 eX12_hashed_151 (hN 49 (by decide)) rfl rfl ?_
    refine v_iconst (v := (3 : Int32)) C eX12_hashed_154 (by decide) ?_
    refine n_bald C I eX12_hashed_155 (hN 28 (by decide)) h28 3 (rfl : (3 : Int32) = nI 3) (by omega) (by decide) ?_
    refine n_callV (As := [.int (A 3)]) (rest := []) C I mX12_171 (c_put I hN h11 h12 h6 hk g2 hf2 (A 3)) (hN 49 (by decide)) rfl hR (by omega) (by decide) ⟨hrc, hrs⟩ rfl rfl (Nat.le_of_ble_eq_true rfl) eX12_hashed_156 (fun r σ' hp => ?_)
    obtain ⟨rfl, rfl⟩ := hp
    have hf3 := hPut_lt (T := T) (Rc := Rc) (K := K) hk (A 3) g2 hf2
    generalize hg3 : hPut T Rc K 1 (A 3) g2 = g3 at hf3
    refine v_aload_n C eX12_hashed_159 rfl 0 rfl ?_
    refine v_aload_n C eX12_hashed_160 rfl 0 rfl ?_
    refine n_get C I fX12_81_X12 eX12_hashed_161 (hN 49 (by decide)) rfl rfl ?_
    refine v_bipush (v := (8 : Int32)) C eX12_hashed_164 (by decide) ?_
    refine v_bipush (v := (8 : Int32)) C eX12_hashed_166 (by decide) ?_
    refine v_eq (st' := [.int (nI 8), .int (nI 8), .ref (ad 28), .ref (ad 49)]) rfl rfl rfl ?_
    refine n_callV (As := [.ref (ad 28), .int (nI 8), .int (nI 8)]) (rest := []) C I mX12_233 (c_putA I hN h11 h12 h6 hk g3 hf3 (hN 28 (by decide)) (by decide) h28 8 8 (by decide) (by decide)) (hN 49 (by decide)) rfl hR (by omega) (by decide) ⟨hrc, hrs⟩ rfl rfl (Nat.le_of_ble_eq_true rfl) eX12_hashed_168 (fun r σ' hp => ?_)
    obtain ⟨rfl, rfl⟩ := hp
    have hf4 := hPutN_lt (T := T) (Rc := Rc) (K := K) hk A 8 g3 hf3 8
    generalize hg4 : hPutN T Rc K 1 A 8 8 g3 = g4 at hf4
    refine v_aload_n C eX12_hashed_171 rfl 0 rfl ?_
    refine v_aload_n C eX12_hashed_172 rfl 0 rfl ?_
    refine n_get C I fX12_81_X12 eX12_hashed_173 (hN 49 (by decide)) rfl rfl ?_
    refine v_bipush (v := (19 : Int32)) C eX12_hashed_176 (by decide) ?_
    refine n_bald C I eX12_hashed_178 (hN 28 (by decide)) h28 19 (rfl : (19 : Int32) = nI 19) (by omega) (by decide) ?_
    refine n_callV (As := [.int (A 19)]) (rest := []) C I mX12_171 (c_put I hN h11 h12 h6 hk g4 hf4 (A 19)) (hN 49 (by decide)) rfl hR (by omega) (by decide) ⟨hrc, hrs⟩ rfl rfl (Nat.le_of_ble_eq_true rfl) eX12_hashed_179 (fun r σ' hp => ?_)
    obtain ⟨rfl, rfl⟩ := hp
    have hf5 := hPut_lt (T := T) (Rc := Rc) (K := K) hk (A 19) g4 hf4
    generalize hg5 : hPut T Rc K 1 (A 19) g4 = g5 at hf5
    refine v_aload_n C eX12_hashed_182 rfl 0 rfl ?_
    refine v_aload_n C eX12_hashed_183 rfl 0 rfl ?_
    refine n_get C I fX12_81_X12 eX12_hashed_184 (hN 49 (by decide)) rfl rfl ?_
    refine v_bipush (v := (20 : Int32)) C eX12_hashed_187 (by decide) ?_
    refine v_bipush (v := (12 : Int32)) C eX12_hashed_189 (by decide) ?_
    refine v_eq (st' := [.int (nI 12), .int (nI 20), .ref (ad 28), .ref (ad 49)]) rfl rfl rfl ?_
    refine n_callV (As := [.ref (ad 28), .int (nI 20), .int (nI 12)]) (rest := []) C I mX12_233 (c_putA I hN h11 h12 h6 hk g5 hf5 (hN 28 (by decide)) (by decide) h28 20 12 (by decide) (by decide)) (hN 49 (by decide)) rfl hR (by omega) (by decide) ⟨hrc, hrs⟩ rfl rfl (Nat.le_of_ble_eq_true rfl) eX12_hashed_191 (fun r σ' hp => ?_)
    obtain ⟨rfl, rfl⟩ := hp
    have hf6 := hPutN_lt (T := T) (Rc := Rc) (K := K) hk A 20 g5 hf5 12
    generalize hg6 : hPutN T Rc K 1 A 20 12 g5 = g6 at hf6
    refine v_aload_n C eX12_hashed_194 rfl 0 rfl ?_
    refine v_aload_n C eX12_hashed_195 rfl 1 rfl ?_
    refine v_iload_n C eX12_hashed_196 rfl 2 rfl ?_
    refine v_iload_n C eX12_hashed_197 rfl 3 rfl ?_
    refine n_callV (As := [.ref (ad kx), .int (nI a), .int (nI mm)]) (rest := []) C I mX12_233 (c_putA I hN h11 h12 h6 hk g6 hf6 hkx hkx1 hx a mm ha hnx) (hN 49 (by decide)) rfl hR (by omega) (by decide) ⟨hrc, hrs⟩ rfl rfl (Nat.le_of_ble_eq_true rfl) eX12_hashed_198 (fun r σ' hp => ?_)
    obtain ⟨rfl, rfl⟩ := hp
    have hf7 := hPutN_lt (T := T) (Rc := Rc) (K := K) hk f a g6 hf6 mm
    generalize hg7 : hPutN T Rc K 1 f a mm g6 = g7 at hf7
    refine v_aload_n C eX12_hashed_201 rfl 0 rfl ?_
    refine v_aload C eX12_hashed_202 4 rfl ?_
    refine v_iload C eX12_hashed_204 5 rfl ?_
    refine v_aload_n C eX12_hashed_206 rfl 0 rfl ?_
    refine n_get C I fX12_243_X12 eX12_hashed_207 (hN 49 (by decide)) rfl rfl ?_
    refine v_natT h41 ?_
    refine n_callV (As := [.ref (ad ko), .int (nI b), .int (nI nn)]) (rest := []) C I mX12_236 (c_give1 I hN h11 h12 h6 g7 hf7 hko hko1 hko2 ho b nn (by omega) hb hno) (hN 49 (by decide)) rfl hR (by omega) (by decide) ⟨hrc, hrs⟩ rfl rfl (Nat.le_of_ble_eq_true rfl) eX12_hashed_210 (fun r σ' hp => ?_)
    obtain ⟨rfl, rfl⟩ := hp
    rw [← hg7, ← hg6, ← hg5, ← hg4, ← hg3, ← hg2, ← hg1, ← hg0]
    exact kk
  · intro i hi ih
    refine v_iload C eX12_hashed_120 7 rfl ?_
    refine v_iload C eX12_hashed_122 6 rfl ?_
    refine v_if_eq (tgt := 133) C eX12_hashed_124 (by decide) (fun _ => ?_) (fun h => absurd (by decide) h)
    refine v_bipush (v := (64 : Int32)) C eX12_hashed_133 (by decide) ?_
    refine v_icmp_ge (tgt := 149) C eX12_hashed_135 (by decide) (fun h => absurd h (ix_nle (a := 64) (b := nn + i) (rfl : (64 : Int32) = nI 64) (rfl : nI (nn + i) = nI (nn + i)) (by omega) (by omega) (by omega))) (fun _ => ?_)
    refine v_aload_n C eX12_hashed_138 rfl 0 rfl ?_
    refine v_iconst (v := (0 : Int32)) C eX12_hashed_139 (by decide) ?_
    refine n_callV (As := [.int ((0 : Int32))]) (rest := []) C I mX12_171 (c_put I hN h11 h12 h6 hk (hZero T Rc K 1 i g1) (hZero_lt hk g1 hf1 i) 0) (hN 49 (by decide)) rfl hR (by omega) (by decide) ⟨hrc, hrs⟩ rfl rfl (Nat.le_of_ble_eq_true rfl) eX12_hashed_140 (fun r σ' hp => ?_)
    obtain ⟨rfl, rfl⟩ := hp
    refine v_iinc (lv' := [(0, .ref (ad 49)), (1, .ref (ad kx)), (2, .int (nI a)), (3, .int (nI mm)), (4, .ref (ad ko)), (5, .int (nI b)), (6, .int ((0 : Int32))), (7, .int (nI (nn + i + 1)))]) C eX12_hashed_143 7 rfl (ix_inc _) (by decide) [1, 2, 3, 4, 5, 6, 7, 0] rfl ?_
    refine v_goto (tgt := 120) C eX12_hashed_146 (by decide) ?_
    exact ih

set_option maxRecDepth 100000 in
set_option maxHeartbeats 4000000 in
theorem hs_tail3 (I : nI1 ad N) (hN : ∀ k, k < 74 → k < N) {σ : nS} {p : Program} {e : Env} {R : Room} {s : State} {m : MethodId} {args : Array Value} {below : List Frame} {meth : Method} {c : Code} {cells slots : Nat} {Q : State → Prop} (C : vC G B p m meth c cX12_hashed 8 none s args yX12_hashed.cls) {d1 mc1 ms1 : Nat} (hR : R = vRm d1 mc1 ms1) (hdd : 5 ≤ d1) (hrc : cells + 0 ≤ mc1) (hrs : slots + 0 ≤ ms1) {x T : Nat → Int32} {Rc K Rt : Nat → Int64} {P A f fo : Nat → Int32} {kx nx ko no nn : Nat} (h11 : σ 11 = eI G 25 T) (h12 : σ 12 = eJ G 24 Rc) (h6 : σ 6 = eJ G 80 K) (h5 : σ 5 = eJ G 16 Rt) (h37 : σ 37 = eB G 32 P) (h28 : σ 28 = eB G 32 A) (hkx : kx < N) (hkx1 : kx ∉ [13, 14, 15, 16, 17, 49]) (hx : σ kx = eB G nx f) (hko : ko < N) (hko1 : ko ∉ [13, 14, 15, 16, 17, 49]) (hko2 : ko ∉ [6, 11, 12]) (ho : σ ko = eB G no fo) (h41 : x 41 = nI nn) (hnn : nn ≤ 32)  (a mm b : Nat) (ha : a + mm ≤ nx) (hnx : nx < 2 ^ 31) (hb : b + nn ≤ no) (hno : no < 2 ^ 31) (S O D W : Nat → Int64) (Bk : Nat → Int32) (fl : Nat) (tt : Int64) (kk : V G B p l e R s m args below meth c 8 (cells + 0 + 0 + 0 + 0 + 0 + 0 + 0 + 0) (slots + 0 + 0 + 0 + 0 + 0 + 0 + 0 + 0) Q (nW ad N (hσ G ad (va_up σ ko (eB G no (hr2 T Rc K Rt 3 nn P A f a mm (S, O, D, W, Bk, fl, tt) b fo))) x 3 (hFin T Rc K 3 (hs2 T Rc K Rt 3 nn P A f a mm (S, O, D, W, Bk, fl, tt))))) 213 [(0, .ref (ad 49)), (1, .ref (ad kx)), (2, .int (nI a)), (3, .int (nI mm)), (4, .ref (ad ko)), (5, .int (nI b)), (6, .int ((1 : Int32))), (7, .int (nI (nn + (128 - nn))))] []) : V G B p l e R s m args below meth c 8 cells slots Q (nW ad N (gσ G ad σ x (S, O, D, W, Bk, fl, tt))) 87 [(0, .ref (ad 49)), (1, .ref (ad kx)), (2, .int (nI a)), (3, .int (nI mm)), (4, .ref (ad ko)), (5, .int (nI b)), (6, .int ((1 : Int32)))] [] := by
  have hk : 3 = 1 ∨ 3 = 3 ∨ 3 = 12 := by decide
  refine v_aload_n C eX12_hashed_87 rfl 0 rfl ?_
  refine v_iload C eX12_hashed_88 6 rfl ?_
  refine v_if_eq (tgt := 97) C eX12_hashed_90 (by decide) (fun h => absurd h (by decide)) (fun _ => ?_)
  refine v_iconst (v := nI 3) C eX12_hashed_93 (by decide) ?_
  refine v_goto (tgt := 98) C eX12_hashed_94 (by decide) ?_
  refine n_callV (As := [.int (nI 3)]) (rest := []) C I mX12_166 (c_begin3 I hN h11 h12 h6 h5 S O D W Bk fl tt) (hN 49 (by decide)) rfl hR (by omega) (by decide) ⟨hrc, hrs⟩ rfl rfl (Nat.le_of_ble_eq_true rfl) eX12_hashed_98 (fun r σ' hp => ?_)
  obtain ⟨rfl, rfl⟩ := hp
  have hf0 : (hBeg 3 Rt (S, O, D, W, Bk, fl, tt)).2.2.2.2.2.1 < rateK 3 := by show 0 < rateK 3; decide
  generalize hg0 : hBeg 3 Rt (S, O, D, W, Bk, fl, tt) = g0 at hf0
  refine v_aload_n C eX12_hashed_101 rfl 0 rfl ?_
  refine v_aload_n C eX12_hashed_102 rfl 0 rfl ?_
  refine n_get C I fX12_108_X12 eX12_hashed_103 (hN 49 (by decide)) rfl rfl ?_
  refine v_iconst (v := (0 : Int32)) C eX12_hashed_106 (by decide) ?_
  refine v_aload_n C eX12_hashed_107 rfl 0 rfl ?_
  refine n_get C I fX12_243_X12 eX12_hashed_108 (hN 49 (by decide)) rfl rfl ?_
  refine v_natT h41 ?_
  refine v_eq (st' := [.int (nI nn), .int (nI 0), .ref (ad 37), .ref (ad 49)]) rfl rfl rfl ?_
  refine n_callV (As := [.ref (ad 37), .int (nI 0), .int (nI nn)]) (rest := []) C I mX12_233 (c_putA I hN h11 h12 h6 hk g0 hf0 (hN 37 (by decide)) (by decide) h37 0 nn (by omega) (by decide)) (hN 49 (by decide)) rfl hR (by omega) (by decide) ⟨hrc, hrs⟩ rfl rfl (Nat.le_of_ble_eq_true rfl) eX12_hashed_111 (fun r σ' hp => ?_)
  obtain ⟨rfl, rfl⟩ := hp
  have hf1 := hPutN_lt (T := T) (Rc := Rc) (K := K) hk P 0 g0 hf0 nn
  generalize hg1 : hPutN T Rc K 3 P 0 nn g0 = g1 at hf1
  refine v_aload_n C eX12_hashed_114 rfl 0 rfl ?_
  refine n_get C I fX12_243_X12 eX12_hashed_115 (hN 49 (by decide)) rfl rfl ?_
  refine v_natT h41 ?_
  refine v_istore (lv' := [(0, .ref (ad 49)), (1, .ref (ad kx)), (2, .int (nI a)), (3, .int (nI mm)), (4, .ref (ad ko)), (5, .int (nI b)), (6, .int ((1 : Int32))), (7, .int (nI nn))]) C eX12_hashed_118 (by decide) [1, 2, 3, 4, 5, 6, 7, 0] rfl ?_
  refine v_forV (fun i => hσ G ad σ x 3 (hZero T Rc K 3 i g1)) (fun i => [(0, .ref (ad 49)), (1, .ref (ad kx)), (2, .int (nI a)), (3, .int (nI mm)), (4, .ref (ad ko)), (5, .int (nI b)), (6, .int ((1 : Int32))), (7, .int (nI (nn + i)))]) (128 - nn) ?_ ?_
  · refine v_iload C eX12_hashed_120 7 rfl ?_
    refine v_iload C eX12_hashed_122 6 rfl ?_
    refine v_if_eq (tgt := 133) C eX12_hashed_124 (by decide) (fun h => absurd h (by decide)) (fun _ => ?_)
    refine v_sipush (v := (128 : Int32)) C eX12_hashed_127 (by decide) ?_
    refine v_goto (tgt := 135) C eX12_hashed_130 (by decide) ?_
    refine v_icmp_ge (tgt := 149) C eX12_hashed_135 (by decide) (fun _ => ?_) (fun h => absurd (ix_le (a := 128) (b := nn + (128 - nn)) (rfl : (128 : Int32) = nI 128) (rfl : nI (nn + (128 - nn)) = nI (nn + (128 - nn))) (by omega) (by omega) (by omega)) h)
    have hf2 := hZero_lt (T := T) (Rc := Rc) (K := K) hk g1 hf1 (128 - nn)
    generalize hg2 : hZero T Rc K 3 (128 - nn) g1 = g2 at hf2 ⊢
    refine v_aload_n C eX12_hashed_149 rfl 0 rfl ?_
    refine v_aload_n C eX12_hashed_150 rfl 0 rfl ?_
    refine n_get C I fX12_81_X12 eX12_hashed_151 (hN 49 (by decide)) rfl rfl ?_
    refine v_iconst (v := (3 : Int32)) C eX12_hashed_154 (by decide) ?_
    refine n_bald C I eX12_hashed_155 (hN 28 (by decide)) h28 3 (rfl : (3 : Int32) = nI 3) (by omega) (by decide) ?_
    refine n_callV (As := [.int (A 3)]) (rest := []) C I mX12_171 (c_put I hN h11 h12 h6 hk g2 hf2 (A 3)) (hN 49 (by decide)) rfl hR (by omega) (by decide) ⟨hrc, hrs⟩ rfl rfl (Nat.le_of_ble_eq_true rfl) eX12_hashed_156 (fun r σ' hp => ?_)
    obtain ⟨rfl, rfl⟩ := hp
    have hf3 := hPut_lt (T := T) (Rc := Rc) (K := K) hk (A 3) g2 hf2
    generalize hg3 : hPut T Rc K 3 (A 3) g2 = g3 at hf3
    refine v_aload_n C eX12_hashed_159 rfl 0 rfl ?_
    refine v_aload_n C eX12_hashed_160 rfl 0 rfl ?_
    refine n_get C I fX12_81_X12 eX12_hashed_161 (hN 49 (by decide)) rfl rfl ?_
    refine v_bipush (v := (8 : Int32)) C eX12_hashed_164 (by decide) ?_
    refine v_bipush (v := (8 : Int32)) C eX12_hashed_166 (by decide) ?_
    refine v_eq (st' := [.int (nI 8), .int (nI 8), .ref (ad 28), .ref (ad 49)]) rfl rfl rfl ?_
    refine n_callV (As := [.ref (ad 28), .int (nI 8), .int (nI 8)]) (rest := []) C I mX12_233 (c_putA I hN h11 h12 h6 hk g3 hf3 (hN 28 (by decide)) (by decide) h28 8 8 (by decide) (by decide)) (hN 49 (by decide)) rfl hR (by omega) (by decide) ⟨hrc, hrs⟩ rfl rfl (Nat.le_of_ble_eq_true rfl) eX12_hashed_168 (fun r σ' hp => ?_)
    obtain ⟨rfl, rfl⟩ := hp
    have hf4 := hPutN_lt (T := T) (Rc := Rc) (K := K) hk A 8 g3 hf3 8
    generalize hg4 : hPutN T Rc K 3 A 8 8 g3 = g4 at hf4
    refine v_aload_n C eX12_hashed_171 rfl 0 rfl ?_
    refine v_aload_n C eX12_hashed_172 rfl 0 rfl ?_
    refine n_get C I fX12_81_X12 eX12_hashed_173 (hN 49 (by decide)) rfl rfl ?_
    refine v_bipush (v := (19 : Int32)) C eX12_hashed_176 (by decide) ?_
    refine n_bald C I eX12_hashed_178 (hN 28 (by decide)) h28 19 (rfl : (19 : Int32) = nI 19) (by omega) (by decide) ?_
    refine n_callV (As := [.int (A 19)]) (rest := []) C I mX12_171 (c_put I hN h11 h12 h6 hk g4 hf4 (A 19)) (hN 49 (by decide)) rfl hR (by omega) (by decide) ⟨hrc, hrs⟩ rfl rfl (Nat.le_of_ble_eq_true rfl) eX12_hashed_179 (fun r σ' hp => ?_)
    obtain ⟨rfl, rfl⟩ := hp
    have hf5 := hPut_lt (T := T) (Rc := Rc) (K := K) hk (A 19) g4 hf4
    generalize hg5 : hPut T Rc K 3 (A 19) g4 = g5 at hf5
    refine v_aload_n C eX12_hashed_182 rfl 0 rfl ?_
    refine v_aload_n C eX12_hashed_183 rfl 0 rfl ?_
    refine n_get C I fX12_81_X12 eX12_hashed_184 (hN 49 (by decide)) rfl rfl ?_
    refine v_bipush (v := (20 : Int32)) C eX12_hashed_187 (by decide) ?_
    refine v_bipush (v := (12 : Int32)) C eX12_hashed_189 (by decide) ?_
    refine v_eq (st' := [.int (nI 12), .int (nI 20), .ref (ad 28), .ref (ad 49)]) rfl rfl rfl ?_
    refine n_callV (As := [.ref (ad 28), .int (nI 20), .int (nI 12)]) (rest := []) C I mX12_233 (c_putA I hN h11 h12 h6 hk g5 hf5 (hN 28 (by decide)) (by decide) h28 20 12 (by decide) (by decide)) (hN 49 (by decide)) rfl hR (by omega) (by decide) ⟨hrc, hrs⟩ rfl rfl (Nat.le_of_ble_eq_true rfl) eX12_hashed_191 (fun r σ' hp => ?_)
    obtain ⟨rfl, rfl⟩ := hp
    have hf6 := hPutN_lt (T := T) (Rc := Rc) (K := K) hk A 20 g5 hf5 12
    generalize hg6 : hPutN T Rc K 3 A 20 12 g5 = g6 at hf6
    refine v_aload_n C eX12_hashed_194 rfl 0 rfl ?_
    refine v_aload_n C eX12_hashed_195 rfl 1 rfl ?_
    refine v_iload_n C eX12_hashed_196 rfl 2 rfl ?_
    refine v_iload_n C eX12_hashed_197 rfl 3 rfl ?_
    refine n_callV (As := [.ref (ad kx), .int (nI a), .int (nI mm)]) (rest := []) C I mX12_233 (c_putA I hN h11 h12 h6 hk g6 hf6 hkx hkx1 hx a mm ha hnx) (hN 49 (by decide)) rfl hR (by omega) (by decide) ⟨hrc, hrs⟩ rfl rfl (Nat.le_of_ble_eq_true rfl) eX12_hashed_198 (fun r σ' hp => ?_)
    obtain ⟨rfl, rfl⟩ := hp
    have hf7 := hPutN_lt (T := T) (Rc := Rc) (K := K) hk f a g6 hf6 mm
    generalize hg7 : hPutN T Rc K 3 f a mm g6 = g7 at hf7
    refine v_aload_n C eX12_hashed_201 rfl 0 rfl ?_
    refine v_aload C eX12_hashed_202 4 rfl ?_
    refine v_iload C eX12_hashed_204 5 rfl ?_
    refine v_aload_n C eX12_hashed_206 rfl 0 rfl ?_
    refine n_get C I fX12_243_X12 eX12_hashed_207 (hN 49 (by decide)) rfl rfl ?_
    refine v_natT h41 ?_
    refine n_callV (As := [.ref (ad ko), .int (nI b), .int (nI nn)]) (rest := []) C I mX12_236 (c_give3 I hN h11 h12 h6 g7 hf7 hko hko1 hko2 ho b nn (by omega) hb hno) (hN 49 (by decide)) rfl hR (by omega) (by decide) ⟨hrc, hrs⟩ rfl rfl (Nat.le_of_ble_eq_true rfl) eX12_hashed_210 (fun r σ' hp => ?_)
    obtain ⟨rfl, rfl⟩ := hp
    rw [← hg7, ← hg6, ← hg5, ← hg4, ← hg3, ← hg2, ← hg1, ← hg0]
    exact kk
  · intro i hi ih
    refine v_iload C eX12_hashed_120 7 rfl ?_
    refine v_iload C eX12_hashed_122 6 rfl ?_
    refine v_if_eq (tgt := 133) C eX12_hashed_124 (by decide) (fun h => absurd h (by decide)) (fun _ => ?_)
    refine v_sipush (v := (128 : Int32)) C eX12_hashed_127 (by decide) ?_
    refine v_goto (tgt := 135) C eX12_hashed_130 (by decide) ?_
    refine v_icmp_ge (tgt := 149) C eX12_hashed_135 (by decide) (fun h => absurd h (ix_nle (a := 128) (b := nn + i) (rfl : (128 : Int32) = nI 128) (rfl : nI (nn + i) = nI (nn + i)) (by omega) (by omega) (by omega))) (fun _ => ?_)
    refine v_aload_n C eX12_hashed_138 rfl 0 rfl ?_
    refine v_iconst (v := (0 : Int32)) C eX12_hashed_139 (by decide) ?_
    refine n_callV (As := [.int ((0 : Int32))]) (rest := []) C I mX12_171 (c_put I hN h11 h12 h6 hk (hZero T Rc K 3 i g1) (hZero_lt hk g1 hf1 i) 0) (hN 49 (by decide)) rfl hR (by omega) (by decide) ⟨hrc, hrs⟩ rfl rfl (Nat.le_of_ble_eq_true rfl) eX12_hashed_140 (fun r σ' hp => ?_)
    obtain ⟨rfl, rfl⟩ := hp
    refine v_iinc (lv' := [(0, .ref (ad 49)), (1, .ref (ad kx)), (2, .int (nI a)), (3, .int (nI mm)), (4, .ref (ad ko)), (5, .int (nI b)), (6, .int ((1 : Int32))), (7, .int (nI (nn + i + 1)))]) C eX12_hashed_143 7 rfl (ix_inc _) (by decide) [1, 2, 3, 4, 5, 6, 7, 0] rfl ?_
    refine v_goto (tgt := 120) C eX12_hashed_146 (by decide) ?_
    exact ih

end M10
end
section
section M11
variable {G : vG} {B : Nat} {l : Launch} {ad : Nat → Nat} {N : Nat}
set_option maxRecDepth 100000 in
set_option maxHeartbeats 4000000 in
theorem c_hashed3 (I : nI1 ad N) (hN : ∀ k, k < 74 → k < N) {σ : nS} {x T : Nat → Int32} {Rc K Rt : Nat → Int64} {P A f fo : Nat → Int32} {kx nx ko no nn : Nat} (h11 : σ 11 = eI G 25 T) (h12 : σ 12 = eJ G 24 Rc) (h6 : σ 6 = eJ G 80 K) (h5 : σ 5 = eJ G 16 Rt) (h37 : σ 37 = eB G 32 P) (h28 : σ 28 = eB G 32 A) (hkx : kx < N) (hkx1 : kx ∉ [13, 14, 15, 16, 17, 49]) (hx : σ kx = eB G nx f) (hko : ko < N) (hko1 : ko ∉ [13, 14, 15, 16, 17, 49]) (hko2 : ko ∉ [6, 11, 12]) (ho : σ ko = eB G no fo) (h41 : x 41 = nI nn) (hnn : nn ≤ 32) (a mm b : Nat) (ha : a + mm ≤ nx) (hnx : nx < 2 ^ 31) (hb : b + nn ≤ no) (hno : no < 2 ^ 31) (hmm : mm < 2 ^ 31) (h48 : x 48 = 0) (c1 : 16 < nn) (c2 : nn < mm) (c3 : ¬ A 19 = 5) (c4 : ¬ A 19 = 6) (S O D W : Nat → Int64) (Bk : Nat → Int32) (fl : Nat) (tt : Int64) : nOk G B l ad N yX12_hashed cX12_hashed 8 none 5 0 0 [.ref (ad 49), .ref (ad kx), .int (nI a), .int (nI mm), .ref (ad ko), .int (nI b)] (gσ G ad σ x (S, O, D, W, Bk, fl, tt)) (fun r σ' => r = none ∧ ∃ (x' : Nat → Int32) (h' : hT), (∀ j, j ≠ 18 → j ≠ 19 → j ≠ 20 → x' j = x j) ∧ σ' = gσ G ad (va_up σ ko (eB G no (hr2 T Rc K Rt 3 nn P A f a mm (S, O, D, W, Bk, fl, tt) b fo))) x' h') := by
  refine vOk.of (by decide +kernel) (Nat.le_of_ble_eq_true rfl) ?_
  intro p e s m args below meth c C
  refine v_eq (lv' := [(0, .ref (ad 49)), (1, .ref (ad kx)), (2, .int (nI a)), (3, .int (nI mm)), (4, .ref (ad ko)), (5, .int (nI b))]) rfl rfl rfl ?_
  refine v_aload_n C eX12_hashed_0 rfl 0 rfl ?_
  refine n_get C I fX12_264_X12 eX12_hashed_1 (hN 49 (by decide)) rfl rfl ?_
  refine v_if_eq (tgt := 40) C eX12_hashed_4 (by decide) (fun _ => ?_) (fun h => absurd (by rw [h48]) h)
  refine v_aload_n C eX12_hashed_40 rfl 0 rfl ?_
  refine n_get C I fX12_243_X12 eX12_hashed_41 (hN 49 (by decide)) rfl rfl ?_
  refine v_natT h41 ?_
  refine v_bipush (v := (16 : Int32)) C eX12_hashed_44 (by decide) ?_
  refine v_icmp_le (tgt := 84) C eX12_hashed_46 (by decide) (fun h => absurd h (ix_nle (a := nn) (b := 16) (rfl : nI nn = nI nn) (rfl : (16 : Int32) = nI 16) (by omega) (by omega) (by omega))) (fun _ => ?_)
  refine v_iload_n C eX12_hashed_49 rfl 3 rfl ?_
  refine v_aload_n C eX12_hashed_50 rfl 0 rfl ?_
  refine n_get C I fX12_243_X12 eX12_hashed_51 (hN 49 (by decide)) rfl rfl ?_
  refine v_natT h41 ?_
  refine v_icmp_le (tgt := 84) C eX12_hashed_54 (by decide) (fun h => absurd h (ix_nle (a := mm) (b := nn) (rfl : nI mm = nI mm) (rfl : nI nn = nI nn) (by omega) (by omega) (by omega))) (fun _ => ?_)
  refine v_aload_n C eX12_hashed_57 rfl 0 rfl ?_
  refine n_get C I fX12_81_X12 eX12_hashed_58 (hN 49 (by decide)) rfl rfl ?_
  refine v_bipush (v := (19 : Int32)) C eX12_hashed_61 (by decide) ?_
  refine n_bald C I eX12_hashed_63 (hN 28 (by decide)) h28 19 (rfl : (19 : Int32) = nI 19) (by omega) (by decide) ?_
  refine v_iconst (v := (5 : Int32)) C eX12_hashed_64 (by decide) ?_
  refine v_icmp_eq (tgt := 84) C eX12_hashed_65 (by decide) (fun h => absurd h c3) (fun _ => ?_)
  refine v_aload_n C eX12_hashed_68 rfl 0 rfl ?_
  refine n_get C I fX12_81_X12 eX12_hashed_69 (hN 49 (by decide)) rfl rfl ?_
  refine v_bipush (v := (19 : Int32)) C eX12_hashed_72 (by decide) ?_
  refine n_bald C I eX12_hashed_74 (hN 28 (by decide)) h28 19 (rfl : (19 : Int32) = nI 19) (by omega) (by decide) ?_
  refine v_bipush (v := (6 : Int32)) C eX12_hashed_75 (by decide) ?_
  refine v_icmp_eq (tgt := 84) C eX12_hashed_77 (by decide) (fun h => absurd h c4) (fun _ => ?_)
  refine v_iconst (v := (1 : Int32)) C eX12_hashed_80 (by decide) ?_
  refine v_goto (tgt := 85) C eX12_hashed_81 (by decide) ?_
  refine v_istore (lv' := [(0, .ref (ad 49)), (1, .ref (ad kx)), (2, .int (nI a)), (3, .int (nI mm)), (4, .ref (ad ko)), (5, .int (nI b)), (6, .int ((1 : Int32)))]) C eX12_hashed_85 (by decide) [1, 2, 3, 4, 5, 6, 0] rfl ?_
  refine hs_tail3 I hN C rfl (by decide) (by decide) (by decide) h11 h12 h6 h5 h37 h28 hkx hkx1 hx hko hko1 hko2 ho h41 hnn a mm b ha hnx hb hno S O D W Bk fl tt ?_
  refine v_wide (k := 0) (n := 0) (by decide) (by decide) ?_
  exact n_vret C rfl eX12_hashed_213 ⟨rfl, _, _, n_ag, rfl⟩

set_option maxRecDepth 100000 in
set_option maxHeartbeats 4000000 in
theorem c_hashed1 (I : nI1 ad N) (hN : ∀ k, k < 74 → k < N) {σ : nS} {x T : Nat → Int32} {Rc K Rt : Nat → Int64} {P A f fo : Nat → Int32} {kx nx ko no nn : Nat} (h11 : σ 11 = eI G 25 T) (h12 : σ 12 = eJ G 24 Rc) (h6 : σ 6 = eJ G 80 K) (h5 : σ 5 = eJ G 16 Rt) (h37 : σ 37 = eB G 32 P) (h28 : σ 28 = eB G 32 A) (hkx : kx < N) (hkx1 : kx ∉ [13, 14, 15, 16, 17, 49]) (hx : σ kx = eB G nx f) (hko : ko < N) (hko1 : ko ∉ [13, 14, 15, 16, 17, 49]) (hko2 : ko ∉ [6, 11, 12]) (ho : σ ko = eB G no fo) (h41 : x 41 = nI nn) (hnn : nn ≤ 32) (a mm b : Nat) (ha : a + mm ≤ nx) (hnx : nx < 2 ^ 31) (hb : b + nn ≤ no) (hno : no < 2 ^ 31) (hmm : mm < 2 ^ 31) (h48 : x 48 = 0) (hsm : nn ≤ 16 ∨ mm ≤ nn ∨ A 19 = 5 ∨ A 19 = 6) (S O D W : Nat → Int64) (Bk : Nat → Int32) (fl : Nat) (tt : Int64) : nOk G B l ad N yX12_hashed cX12_hashed 8 none 5 0 0 [.ref (ad 49), .ref (ad kx), .int (nI a), .int (nI mm), .ref (ad ko), .int (nI b)] (gσ G ad σ x (S, O, D, W, Bk, fl, tt)) (fun r σ' => r = none ∧ ∃ (x' : Nat → Int32) (h' : hT), (∀ j, j ≠ 18 → j ≠ 19 → j ≠ 20 → x' j = x j) ∧ σ' = gσ G ad (va_up σ ko (eB G no (hr2 T Rc K Rt 1 nn P A f a mm (S, O, D, W, Bk, fl, tt) b fo))) x' h') := by
  refine vOk.of (by decide +kernel) (Nat.le_of_ble_eq_true rfl) ?_
  intro p e s m args below meth c C
  refine v_eq (lv' := [(0, .ref (ad 49)), (1, .ref (ad kx)), (2, .int (nI a)), (3, .int (nI mm)), (4, .ref (ad ko)), (5, .int (nI b))]) rfl rfl rfl ?_
  refine v_aload_n C eX12_hashed_0 rfl 0 rfl ?_
  refine n_get C I fX12_264_X12 eX12_hashed_1 (hN 49 (by decide)) rfl rfl ?_
  refine v_if_eq (tgt := 40) C eX12_hashed_4 (by decide) (fun _ => ?_) (fun h => absurd (by rw [h48]) h)
  refine v_aload_n C eX12_hashed_40 rfl 0 rfl ?_
  refine n_get C I fX12_243_X12 eX12_hashed_41 (hN 49 (by decide)) rfl rfl ?_
  refine v_natT h41 ?_
  refine v_bipush (v := (16 : Int32)) C eX12_hashed_44 (by decide) ?_
  by_cases c1 : nn ≤ 16
  · refine v_icmp_le (tgt := 84) C eX12_hashed_46 (by decide) (fun _ => ?_) (fun h => absurd (ix_le (a := nn) (b := 16) (rfl : nI nn = nI nn) (rfl : (16 : Int32) = nI 16) (by omega) (by omega) (by omega)) h)
    refine v_iconst (v := (0 : Int32)) C eX12_hashed_84 (by decide) ?_
    refine v_istore (lv' := [(0, .ref (ad 49)), (1, .ref (ad kx)), (2, .int (nI a)), (3, .int (nI mm)), (4, .ref (ad ko)), (5, .int (nI b)), (6, .int ((0 : Int32)))]) C eX12_hashed_85 (by decide) [1, 2, 3, 4, 5, 6, 0] rfl ?_
    refine hs_tail1 I hN C rfl (by decide) (by decide) (by decide) h11 h12 h6 h5 h37 h28 hkx hkx1 hx hko hko1 hko2 ho h41 hnn a mm b ha hnx hb hno S O D W Bk fl tt ?_
    refine v_wide (k := 0) (n := 0) (by decide) (by decide) ?_
    exact n_vret C rfl eX12_hashed_213 ⟨rfl, _, _, n_ag, rfl⟩
  · refine v_icmp_le (tgt := 84) C eX12_hashed_46 (by decide) (fun h => absurd h (ix_nle (a := nn) (b := 16) (rfl : nI nn = nI nn) (rfl : (16 : Int32) = nI 16) (by omega) (by omega) (by omega))) (fun _ => ?_)
    refine v_iload_n C eX12_hashed_49 rfl 3 rfl ?_
    refine v_aload_n C eX12_hashed_50 rfl 0 rfl ?_
    refine n_get C I fX12_243_X12 eX12_hashed_51 (hN 49 (by decide)) rfl rfl ?_
    refine v_natT h41 ?_
    by_cases c2 : mm ≤ nn
    · refine v_icmp_le (tgt := 84) C eX12_hashed_54 (by decide) (fun _ => ?_) (fun h => absurd (ix_le (a := mm) (b := nn) (rfl : nI mm = nI mm) (rfl : nI nn = nI nn) (by omega) (by omega) (by omega)) h)
      refine v_iconst (v := (0 : Int32)) C eX12_hashed_84 (by decide) ?_
      refine v_istore (lv' := [(0, .ref (ad 49)), (1, .ref (ad kx)), (2, .int (nI a)), (3, .int (nI mm)), (4, .ref (ad ko)), (5, .int (nI b)), (6, .int ((0 : Int32)))]) C eX12_hashed_85 (by decide) [1, 2, 3, 4, 5, 6, 0] rfl ?_
      refine hs_tail1 I hN C rfl (by decide) (by decide) (by decide) h11 h12 h6 h5 h37 h28 hkx hkx1 hx hko hko1 hko2 ho h41 hnn a mm b ha hnx hb hno S O D W Bk fl tt ?_
      refine v_wide (k := 0) (n := 0) (by decide) (by decide) ?_
      exact n_vret C rfl eX12_hashed_213 ⟨rfl, _, _, n_ag, rfl⟩
    · refine v_icmp_le (tgt := 84) C eX12_hashed_54 (by decide) (fun h => absurd h (ix_nle (a := mm) (b := nn) (rfl : nI mm = nI mm) (rfl : nI nn = nI nn) (by omega) (by omega) (by omega))) (fun _ => ?_)
      refine v_aload_n C eX12_hashed_57 rfl 0 rfl ?_
      refine n_get C I fX12_81_X12 eX12_hashed_58 (hN 49 (by decide)) rfl rfl ?_
      refine v_bipush (v := (19 : Int32)) C eX12_hashed_61 (by decide) ?_
      refine n_bald C I eX12_hashed_63 (hN 28 (by decide)) h28 19 (rfl : (19 : Int32) = nI 19) (by omega) (by decide) ?_
      refine v_iconst (v := (5 : Int32)) C eX12_hashed_64 (by decide) ?_
      by_cases c3 : A 19 = 5
      · refine v_icmp_eq (tgt := 84) C eX12_hashed_65 (by decide) (fun _ => ?_) (fun h => absurd c3 h)
        refine v_iconst (v := (0 : Int32)) C eX12_hashed_84 (by decide) ?_
        refine v_istore (lv' := [(0, .ref (ad 49)), (1, .ref (ad kx)), (2, .int (nI a)), (3, .int (nI mm)), (4, .ref (ad ko)), (5, .int (nI b)), (6, .int ((0 : Int32)))]) C eX12_hashed_85 (by decide) [1, 2, 3, 4, 5, 6, 0] rfl ?_
        refine hs_tail1 I hN C rfl (by decide) (by decide) (by decide) h11 h12 h6 h5 h37 h28 hkx hkx1 hx hko hko1 hko2 ho h41 hnn a mm b ha hnx hb hno S O D W Bk fl tt ?_
        refine v_wide (k := 0) (n := 0) (by decide) (by decide) ?_
        exact n_vret C rfl eX12_hashed_213 ⟨rfl, _, _, n_ag, rfl⟩
      · refine v_icmp_eq (tgt := 84) C eX12_hashed_65 (by decide) (fun h => absurd h c3) (fun _ => ?_)
        refine v_aload_n C eX12_hashed_68 rfl 0 rfl ?_
        refine n_get C I fX12_81_X12 eX12_hashed_69 (hN 49 (by decide)) rfl rfl ?_
        refine v_bipush (v := (19 : Int32)) C eX12_hashed_72 (by decide) ?_
        refine n_bald C I eX12_hashed_74 (hN 28 (by decide)) h28 19 (rfl : (19 : Int32) = nI 19) (by omega) (by decide) ?_
        refine v_bipush (v := (6 : Int32)) C eX12_hashed_75 (by decide) ?_
        by_cases c4 : A 19 = 6
        · refine v_icmp_eq (tgt := 84) C eX12_hashed_77 (by decide) (fun _ => ?_) (fun h => absurd c4 h)
          refine v_iconst (v := (0 : Int32)) C eX12_hashed_84 (by decide) ?_
          refine v_istore (lv' := [(0, .ref (ad 49)), (1, .ref (ad kx)), (2, .int (nI a)), (3, .int (nI mm)), (4, .ref (ad ko)), (5, .int (nI b)), (6, .int ((0 : Int32)))]) C eX12_hashed_85 (by decide) [1, 2, 3, 4, 5, 6, 0] rfl ?_
          refine hs_tail1 I hN C rfl (by decide) (by decide) (by decide) h11 h12 h6 h5 h37 h28 hkx hkx1 hx hko hko1 hko2 ho h41 hnn a mm b ha hnx hb hno S O D W Bk fl tt ?_
          refine v_wide (k := 0) (n := 0) (by decide) (by decide) ?_
          exact n_vret C rfl eX12_hashed_213 ⟨rfl, _, _, n_ag, rfl⟩
        · exact absurd hsm (fun q => by rcases q with q | q | q | q; exact c1 q; exact c2 q; exact c3 q; exact c4 q)

end M11
end
section
/-! THE HASH'S CELLS HIDDEN (draft, not yet compiled): names 13 .. 17 and the ints 18, 19, 20 and the total of 49 are anything -/
def ag (x' x : Nat → Int32) : Prop := ∀ j, j ≠ 18 → j ≠ 19 → j ≠ 20 → x' j = x j
theorem ag.rf {x : Nat → Int32} : ag x x := fun _ _ _ _ => rfl
theorem ag.tr {x y z : Nat → Int32} (h : ag x y) (g : ag y z) : ag x z := fun j a b c => (h j a b c).trans (g j a b c)
def sOk (G : vG) (B : Nat) (l : Launch) (ad : Nat → Nat) (N : Nat) (y : MethodName) (bytes : ByteArray) (maxL : Nat) (ret : Option FieldType) (d mc ms : Nat) (av : List Value) (σ : nS) (x : Nat → Int32) (post : Option Value → nS → Prop) : Prop :=
  ∀ (x' : Nat → Int32) (h' : hT), ag x' x → nOk G B l ad N y bytes maxL ret d mc ms av (gσ G ad σ x' h') (fun r τ => ∃ (σ1 : nS) (x1 : Nat → Int32) (h1 : hT), ag x1 x ∧ τ = gσ G ad σ1 x1 h1 ∧ post r σ1)
section SFor
variable {G : vG} {B : Nat} {p : Program} {l : Launch} {e : Env} {R : Room} {s : State} {m : MethodId} {args : Array Value} {below : List Frame} {meth : Method} {c : Code} {nL cells slots : Nat} {Q : State → Prop} {ad : Nat → Nat} {N : Nat} {hd : Nat} {st : List Value} {x : Nat → Int32}
theorem v_forS (τ : Nat → nS) (L : Nat → List (Nat × Value)) (n : Nat) (hend : ∀ x' h', ag x' x → V G B p l e R s m args below meth c nL cells slots Q (nW ad N (gσ G ad (τ n) x' h')) hd (L n) st) (hstep : ∀ i, i < n → (∀ x' h', ag x' x → V G B p l e R s m args below meth c nL cells slots Q (nW ad N (gσ G ad (τ (i + 1)) x' h')) hd (L (i + 1)) st) → ∀ x' h', ag x' x → V G B p l e R s m args below meth c nL cells slots Q (nW ad N (gσ G ad (τ i) x' h')) hd (L i) st) : ∀ x' h', ag x' x → V G B p l e R s m args below meth c nL cells slots Q (nW ad N (gσ G ad (τ 0) x' h')) hd (L 0) st :=
  v_for (P := fun i => ∀ x' h', ag x' x → V G B p l e R s m args below meth c nL cells slots Q (nW ad N (gσ G ad (τ i) x' h')) hd (L i) st) n hend hstep
end SFor
end
section
/-! PURE: the reference's permutation in closed form; it doesn't ask what stood in its side rows -/
def eq25 (S S' : Nat → Int64) : Prop := ∀ j, j < 25 → S j = S' j
set_option maxRecDepth 100000 in
theorem pmC_at (S c : Nat → Int64) : ∀ a, a < 5 → pmC S c a = ((((0 ^^^ S (a + 5 * 0)) ^^^ S (a + 5 * 1)) ^^^ S (a + 5 * 2)) ^^^ S (a + 5 * 3)) ^^^ S (a + 5 * 4)
  | 0, _ => rfl
  | 1, _ => rfl
  | 2, _ => rfl
  | 3, _ => rfl
  | 4, _ => rfl
  | j + 5, h => absurd h (by omega)
set_option maxRecDepth 100000 in
theorem pmTh_at (c S : Nat → Int64) : ∀ j, j < 25 → pmTh c S j = S j ^^^ (c ((j % 5 + 4) % 5) ^^^ rlR (c ((j % 5 + 1) % 5)) 1)
  | 0, _ => rfl
  | 1, _ => rfl
  | 2, _ => rfl
  | 3, _ => rfl
  | 4, _ => rfl
  | 5, _ => rfl
  | 6, _ => rfl
  | 7, _ => rfl
  | 8, _ => rfl
  | 9, _ => rfl
  | 10, _ => rfl
  | 11, _ => rfl
  | 12, _ => rfl
  | 13, _ => rfl
  | 14, _ => rfl
  | 15, _ => rfl
  | 16, _ => rfl
  | 17, _ => rfl
  | 18, _ => rfl
  | 19, _ => rfl
  | 20, _ => rfl
  | 21, _ => rfl
  | 22, _ => rfl
  | 23, _ => rfl
  | 24, _ => rfl
  | j + 25, h => absurd h (by omega)
def piI (j : Nat) : Nat := (3 * (j / 5) + j % 5) % 5 + 5 * (j % 5)
set_option maxRecDepth 100000 in
theorem pmRo_at (T : Nat → Int32) (S q : Nat → Int64) : ∀ j, j < 25 → pmRo T S q j = rlR (S (piI j)) (T (piI j))
  | 0, _ => rfl
  | 1, _ => rfl
  | 2, _ => rfl
  | 3, _ => rfl
  | 4, _ => rfl
  | 5, _ => rfl
  | 6, _ => rfl
  | 7, _ => rfl
  | 8, _ => rfl
  | 9, _ => rfl
  | 10, _ => rfl
  | 11, _ => rfl
  | 12, _ => rfl
  | 13, _ => rfl
  | 14, _ => rfl
  | 15, _ => rfl
  | 16, _ => rfl
  | 17, _ => rfl
  | 18, _ => rfl
  | 19, _ => rfl
  | 20, _ => rfl
  | 21, _ => rfl
  | 22, _ => rfl
  | 23, _ => rfl
  | 24, _ => rfl
  | j + 25, h => absurd h (by omega)
set_option maxRecDepth 100000 in
theorem pmCh_at (q S : Nat → Int64) : ∀ j, j < 25 → pmCh q S j = q j ^^^ ((q ((j % 5 + 1) % 5 + 5 * (j / 5)) ^^^ (-1)) &&& q ((j % 5 + 2) % 5 + 5 * (j / 5)))
  | 0, _ => rfl
  | 1, _ => rfl
  | 2, _ => rfl
  | 3, _ => rfl
  | 4, _ => rfl
  | 5, _ => rfl
  | 6, _ => rfl
  | 7, _ => rfl
  | 8, _ => rfl
  | 9, _ => rfl
  | 10, _ => rfl
  | 11, _ => rfl
  | 12, _ => rfl
  | 13, _ => rfl
  | 14, _ => rfl
  | 15, _ => rfl
  | 16, _ => rfl
  | 17, _ => rfl
  | 18, _ => rfl
  | 19, _ => rfl
  | 20, _ => rfl
  | 21, _ => rfl
  | 22, _ => rfl
  | 23, _ => rfl
  | 24, _ => rfl
  | j + 25, h => absurd h (by omega)
end
section
/-! PURE: the reference's permutation asks the first 25 lanes alone -/
theorem piI_lt {j : Nat} (h : j < 25) : piI j < 25 := by unfold piI; omega
theorem pmR_eq {T : Nat → Int32} {K S S' O O' D D' : Nat → Int64} {i : Nat} (h : eq25 S S') : eq25 (pmR T K i (S, O, D)).1 (pmR T K i (S', O', D')).1 := by
  have hc : ∀ a, a < 5 → pmC S D a = pmC S' D' a := by
    intro a ha
    rw [pmC_at S D a ha, pmC_at S' D' a ha, h (a + 5 * 0) (by omega), h (a + 5 * 1) (by omega), h (a + 5 * 2) (by omega), h (a + 5 * 3) (by omega), h (a + 5 * 4) (by omega)]
  have h1 : eq25 (pmTh (pmC S D) S) (pmTh (pmC S' D') S') := by
    intro j hj
    rw [pmTh_at _ _ j hj, pmTh_at _ _ j hj, h j hj, hc _ (Nat.mod_lt _ (by decide)), hc _ (Nat.mod_lt _ (by decide))]
  have h2 : eq25 (pmRo T (pmTh (pmC S D) S) O) (pmRo T (pmTh (pmC S' D') S') O') := by
    intro j hj
    rw [pmRo_at _ _ _ j hj, pmRo_at _ _ _ j hj, h1 _ (piI_lt hj)]
  have h3 : eq25 (pmCh (pmRo T (pmTh (pmC S D) S) O) (pmTh (pmC S D) S)) (pmCh (pmRo T (pmTh (pmC S' D') S') O') (pmTh (pmC S' D') S')) := by
    intro j hj
    rw [pmCh_at _ _ j hj, pmCh_at _ _ j hj, h2 j hj, h2 _ (by omega), h2 _ (by omega)]
  intro j hj
  show vp_updL _ 0 _ j = vp_updL _ 0 _ j
  unfold vp_updL
  by_cases q : j = 0
  · rw [if_pos q, if_pos q, h3 0 (by decide)]
  · rw [if_neg q, if_neg q]
    exact h3 j hj
theorem pmN_eq {T : Nat → Int32} {K S S' O O' D D' : Nat → Int64} (h : eq25 S S') : ∀ n, eq25 (itN (pmR T K) n (S, O, D)).1 (itN (pmR T K) n (S', O', D')).1
  | 0 => h
  | n + 1 => by
    have ih := pmN_eq (T := T) (K := K) (O := O) (O' := O') (D := D) (D' := D') h n
    show eq25 (pmR T K n (itN (pmR T K) n (S, O, D))).1 (pmR T K n (itN (pmR T K) n (S', O', D'))).1
    generalize itN (pmR T K) n (S, O, D) = q at ih ⊢
    generalize itN (pmR T K) n (S', O', D') = q' at ih ⊢
    obtain ⟨a, b, c⟩ := q
    obtain ⟨a', b', c'⟩ := q'
    exact pmR_eq ih
/-- two streams of which nobody can see a difference -/
def hEq (h h' : hT) : Prop := eq25 h.1 h'.1 ∧ h.2.2.2.2.2.1 = h'.2.2.2.2.2.1 ∧ h.2.2.2.2.2.2 = h'.2.2.2.2.2.2 ∧ ∀ j, j < h.2.2.2.2.2.1 → h.2.2.2.2.1 j = h'.2.2.2.2.1 j
theorem sp1_eq {S S' : Nat → Int64} {a : Nat} {v : Int32} (h : eq25 S S') (ha : a < 200) : eq25 (sp1 S a v) (sp1 S' a v) := by
  intro j hj
  unfold sp1 vp_updL
  by_cases q : j = a / 8
  · rw [if_pos q, if_pos q, h (a / 8) (by omega)]
  · rw [if_neg q, if_neg q]
    exact h j hj
end
section
/-! PURE: the compressions ask the block and the state alone -/
theorem itN_s {α : Type} {f : Nat → α → α} {n : Nat} {s : α} : itN f (n + 1) s = f n (itN f n s) := rfl
theorem itN_0 {α : Type} {f : Nat → α → α} {s : α} : itN f 0 s = s := rfl
theorem up_at {f : Nat → Int64} {k j : Nat} {v : Int64} : vp_updL f k v j = if j = k then v else f j := rfl
theorem c32v_eq {Bk Bk' : Nat → Int32} {i : Nat} (h : ∀ j, j < 64 → Bk j = Bk' j) (hi : i < 16) : c32v Bk i 4 = c32v Bk' i 4 := by
  simp only [c32v, itN]
  rw [h (4 * i + 0) (by omega), h (4 * i + 1) (by omega), h (4 * i + 2) (by omega), h (4 * i + 3) (by omega)]
theorem c32L_at {Bk : Nat → Int32} {w : Nat → Int64} : ∀ n j, j < n → c32L Bk n w j = (c32v Bk j 4).toInt64
  | 0, _, h => absurd h (Nat.not_lt_zero _)
  | n + 1, j, h => by
    show vp_updL (c32L Bk n w) n _ j = _
    rw [up_at]
    by_cases q : j = n
    · rw [if_pos q, q]
    · rw [if_neg q]; exact c32L_at n j (by omega)
theorem c32X_eq {w w' : Nat → Int64} (h : ∀ j, j < 16 → w j = w' j) : ∀ n j, j < 16 + n → c32X n w j = c32X n w' j
  | 0, j, hj => h j hj
  | n + 1, j, hj => by
    have ih := c32X_eq h n
    show c32X1 (16 + n) (c32X n w) j = c32X1 (16 + n) (c32X n w') j
    unfold c32X1
    rw [up_at, up_at]
    by_cases q : j = 16 + n
    · rw [if_pos q, if_pos q, ih (16 + n - 2) (by omega), ih (16 + n - 7) (by omega), ih (16 + n - 15) (by omega), ih (16 + n - 16) (by omega)]
    · rw [if_neg q, if_neg q]; exact ih j (by omega)
theorem c32W_eq {Bk Bk' : Nat → Int32} {w w' : Nat → Int64} (h : ∀ j, j < 64 → Bk j = Bk' j) : ∀ j, j < 64 → c32W Bk w j = c32W Bk' w' j := by
  intro j hj
  exact c32X_eq (fun j h1 => by rw [c32L_at 16 j h1, c32L_at 16 j h1, c32v_eq h h1]) 48 j hj
theorem c32R_w {K W : Nat → Int64} {n : Nat} {u : q32} : c32R K W n u = c32R K (fun _ => W n) n u := by
  obtain ⟨a, b, c, d, e, f, g, i⟩ := u
  rfl
theorem c32N_eq {K W W' : Nat → Int64} {q : q32} {m : Nat} (h : ∀ j, j < m → W j = W' j) : ∀ n, n ≤ m → itN (c32R K W) n q = itN (c32R K W') n q := by
  intro n
  induction n with
  | zero => intro _; rw [itN_0, itN_0]
  | succ n ih =>
    intro hn
    rw [itN_s, itN_s, ih (by omega), c32R_w, c32R_w (W := W'), h n (by omega)]
theorem adA_eq {v : Nat → Int64} {S S' : Nat → Int64} (h : eq25 S S') : ∀ n, eq25 (adA v n S) (adA v n S')
  | 0 => h
  | n + 1 => by
    intro j hj
    show vp_updL (adA v n S) n (adA v n S n + v n) j = vp_updL (adA v n S') n (adA v n S' n + v n) j
    rw [up_at, up_at]
    by_cases q : j = n
    · rw [if_pos q, if_pos q, adA_eq h n n (by omega)]
    · rw [if_neg q, if_neg q]; exact adA_eq h n j hj
theorem c32_eq {K : Nat → Int64} {Bk Bk' : Nat → Int32} {w w' S S' : Nat → Int64} (hB : ∀ j, j < 64 → Bk j = Bk' j) (h : eq25 S S') : eq25 (c32 K Bk w S) (c32 K Bk' w' S') := by
  have hI : c32I S = c32I S' := by unfold c32I; rw [h 0 (by decide), h 1 (by decide), h 2 (by decide), h 3 (by decide), h 4 (by decide), h 5 (by decide), h 6 (by decide), h 7 (by decide)]
  unfold c32 c32A
  rw [hI, c32N_eq (c32W_eq (w := w) (w' := w') hB) 64 (Nat.le_refl _)]
  exact adA_eq h 8
theorem c64L1_at {Bk : Nat → Int32} {w : Nat → Int64} {i : Nat} : ∀ n j, j ≠ i → c64L1 Bk i w n j = w j := by
  intro n
  induction n with
  | zero => intro j h; show vp_updL w i 0 j = w j; rw [up_at, if_neg h]
  | succ n ih =>
    intro j h
    unfold c64L1 at ih ⊢
    rw [itN_s, up_at, if_neg h]
    exact ih j h
theorem c64L1_i {Bk Bk' : Nat → Int32} {w w' : Nat → Int64} {i : Nat} (h : ∀ j, j < 128 → Bk j = Bk' j) (hi : i < 16) : ∀ n, n ≤ 8 → c64L1 Bk i w n i = c64L1 Bk' i w' n i := by
  intro n
  induction n with
  | zero => intro _; show vp_updL w i 0 i = vp_updL w' i 0 i; rw [up_at, up_at, if_pos rfl, if_pos rfl]
  | succ n ih =>
    intro hn
    have ih := ih (by omega)
    unfold c64L1 at ih ⊢
    rw [itN_s, itN_s, up_at, up_at, if_pos rfl, if_pos rfl, ih, h (8 * i + n) (by omega)]
theorem c64L_eq {Bk Bk' : Nat → Int32} {w w' : Nat → Int64} (h : ∀ j, j < 128 → Bk j = Bk' j) : ∀ n, n ≤ 16 → ∀ j, j < n → c64L Bk n w j = c64L Bk' n w' j := by
  intro n
  induction n with
  | zero => intro _ j hj; exact absurd hj (Nat.not_lt_zero _)
  | succ n ih =>
    intro hn j hj
    have ih := ih (by omega)
    unfold c64L at ih ⊢
    rw [itN_s, itN_s]
    by_cases q : j = n
    · rw [q]; exact c64L1_i h (by omega) 8 (Nat.le_refl _)
    · rw [c64L1_at 8 j q, c64L1_at 8 j q]; exact ih j (by omega)
theorem c64X_eq {w w' : Nat → Int64} (h : ∀ j, j < 16 → w j = w' j) : ∀ n j, j < 16 + n → c64X n w j = c64X n w' j := by
  intro n
  induction n with
  | zero => intro j hj; exact h j hj
  | succ n ih =>
    intro j hj
    unfold c64X at ih ⊢
    rw [itN_s, itN_s]
    unfold c64X1 at ih ⊢
    rw [up_at, up_at]
    by_cases q : j = 16 + n
    · rw [if_pos q, if_pos q, ih (16 + n - 2) (by omega), ih (16 + n - 7) (by omega), ih (16 + n - 15) (by omega), ih (16 + n - 16) (by omega)]
    · rw [if_neg q, if_neg q]; exact ih j (by omega)
theorem c64R_w {K W : Nat → Int64} {n : Nat} {u : q64} : c64R K W n u = c64R K (fun _ => W n) n u := by
  obtain ⟨a, b, c, d, e, f, g, i⟩ := u
  rfl
theorem c64N_eq {K W W' : Nat → Int64} {q : q64} {m : Nat} (h : ∀ j, j < m → W j = W' j) : ∀ n, n ≤ m → itN (c64R K W) n q = itN (c64R K W') n q := by
  intro n
  induction n with
  | zero => intro _; rw [itN_0, itN_0]
  | succ n ih =>
    intro hn
    rw [itN_s, itN_s, ih (by omega), c64R_w, c64R_w (W := W'), h n (by omega)]
theorem c64A_ad {q : q64} {n : Nat} {S : Nat → Int64} : c64A q n S = adA (q64g q) n S := rfl
theorem c64_eq {K : Nat → Int64} {Bk Bk' : Nat → Int32} {w w' S S' : Nat → Int64} (hB : ∀ j, j < 128 → Bk j = Bk' j) (h : eq25 S S') : eq25 (c64 K Bk w S) (c64 K Bk' w' S') := by
  unfold c64
  rw [h 0 (by decide), h 1 (by decide), h 2 (by decide), h 3 (by decide), h 4 (by decide), h 5 (by decide), h 6 (by decide), h 7 (by decide), c64N_eq (W := c64W Bk w) (W' := c64W Bk' w') (fun j hj => c64X_eq (c64L_eq hB 16 (Nat.le_refl _)) 64 j hj) 80 (Nat.le_refl _), c64A_ad, c64A_ad]
  exact adA_eq h 8
end
section
/-! PURE: streams over lists of bytes; nobody sees what stood in the rows before -/
abbrev tT : Type := (Nat → Int32) × (Nat → Int64) × (Nat → Int64) × (Nat → Int64)
def hQ (k : Nat) (h h' : hT) : Prop := eq25 h.1 h'.1 ∧ h.2.2.2.2.2.1 = h'.2.2.2.2.2.1 ∧ h.2.2.2.2.2.2 = h'.2.2.2.2.2.2 ∧ (k ≠ 12 → ∀ j, j < h.2.2.2.2.2.1 → h.2.2.2.2.1 j = h'.2.2.2.2.1 j)
theorem rateK_b {k : Nat} (hk : k = 1 ∨ k = 3 ∨ k = 12) : 64 ≤ rateK k ∧ rateK k ≤ 136 := by
  rcases hk with rfl | rfl | rfl <;> decide
theorem hPut1_q {k : Nat} (hk : k = 1 ∨ k = 3 ∨ k = 12) {v : Int32} {h h' : hT} (q : hQ k h h') (hf : h.2.2.2.2.2.1 < rateK k) : hQ k (hPut1 k v h) (hPut1 k v h') := by
  obtain ⟨S, O, D, W, Bk, f, t⟩ := h
  obtain ⟨S', O', D', W', Bk', f', t'⟩ := h'
  obtain ⟨q1, q2, q3, q4⟩ := q
  dsimp only at q1 q2 q3 q4 hf
  subst q2; subst q3
  have hr := (rateK_b hk).2
  unfold hPut1
  by_cases e : k = 12
  · simp only [e, if_true]
    exact ⟨sp1_eq q1 (by omega), rfl, rfl, fun g => absurd rfl g⟩
  · simp only [e, if_false]
    refine ⟨q1, rfl, rfl, fun _ j hj => ?_⟩
    dsimp only at hj ⊢
    unfold upd
    by_cases g : j = f
    · rw [if_pos g, if_pos g]
    · rw [if_neg g, if_neg g]
      exact q4 e j (by omega)
theorem hBlk_1 {T : Nat → Int32} {Rc K S O D W : Nat → Int64} {Bk : Nat → Int32} {f : Nat} {t : Int64} : hBlk T Rc K 1 (S, O, D, W, Bk, f, t) = (c32 K Bk W S, O, D, c32W Bk W, Bk, 0, t) := by
  simp only [hBlk]
  rw [if_neg (by decide), if_pos trivial]
theorem hBlk_3 {T : Nat → Int32} {Rc K S O D W : Nat → Int64} {Bk : Nat → Int32} {f : Nat} {t : Int64} : hBlk T Rc K 3 (S, O, D, W, Bk, f, t) = (c64 K Bk W S, O, D, c64W Bk W, Bk, 0, t) := by
  simp only [hBlk]
  rw [if_neg (by decide), if_neg (by decide)]
theorem hBlk_12 {T : Nat → Int32} {Rc K S O D W : Nat → Int64} {Bk : Nat → Int32} {f : Nat} {t : Int64} : hBlk T Rc K 12 (S, O, D, W, Bk, f, t) = ((itN (pmR T Rc) 24 (S, O, D)).1, (itN (pmR T Rc) 24 (S, O, D)).2.1, (itN (pmR T Rc) 24 (S, O, D)).2.2, W, Bk, 0, t) := by
  simp only [hBlk]
  rw [if_pos trivial]
theorem rateK_1 : rateK 1 = 64 := by decide
theorem rateK_3 : rateK 3 = 128 := by decide
theorem rateK_12 : rateK 12 = 136 := by decide
theorem hQ_mk {k : Nat} {u v O D a O' D' b : Nat → Int64} {Bk Bk' : Nat → Int32} {t : Int64} (key : eq25 u v) : hQ k (u, O, D, a, Bk, 0, t) (v, O', D', b, Bk', 0, t) :=
  ⟨key, rfl, rfl, fun _ j hj => absurd hj (Nat.not_lt_zero j)⟩
theorem eq25_fst {α : Type} {u v : Nat → Int64} {a b : α} (key : eq25 u v) : eq25 (u, a).1 (v, b).1 := key
theorem hBlk_q1 {T : Nat → Int32} {Rc K : Nat → Int64} {S O D W S' O' D' W' : Nat → Int64} {Bk Bk' : Nat → Int32} {f : Nat} {t : Int64} (q1 : eq25 S S') (q4 : ∀ j, j < 64 → Bk j = Bk' j) : hQ 1 (hBlk T Rc K 1 (S, O, D, W, Bk, f, t)) (hBlk T Rc K 1 (S', O', D', W', Bk', f, t)) := by
  rw [hBlk_1, hBlk_1]
  exact hQ_mk (c32_eq q4 q1)
theorem hBlk_q3 {T : Nat → Int32} {Rc K : Nat → Int64} {S O D W S' O' D' W' : Nat → Int64} {Bk Bk' : Nat → Int32} {f : Nat} {t : Int64} (q1 : eq25 S S') (q4 : ∀ j, j < 128 → Bk j = Bk' j) : hQ 3 (hBlk T Rc K 3 (S, O, D, W, Bk, f, t)) (hBlk T Rc K 3 (S', O', D', W', Bk', f, t)) := by
  rw [hBlk_3, hBlk_3]
  exact hQ_mk (c64_eq q4 q1)
theorem hBlk_q12 {T : Nat → Int32} {Rc K : Nat → Int64} {S O D W S' O' D' W' : Nat → Int64} {Bk Bk' : Nat → Int32} {f : Nat} {t : Int64} (q1 : eq25 S S') : hQ 12 (hBlk T Rc K 12 (S, O, D, W, Bk, f, t)) (hBlk T Rc K 12 (S', O', D', W', Bk', f, t)) := by
  rw [hBlk_12, hBlk_12]
  exact hQ_mk (pmN_eq q1 24)
theorem hBlk_q {T : Nat → Int32} {Rc K : Nat → Int64} {k : Nat} (hk : k = 1 ∨ k = 3 ∨ k = 12) {h h' : hT} (q : hQ k h h') (hf : h.2.2.2.2.2.1 = rateK k) : hQ k (hBlk T Rc K k h) (hBlk T Rc K k h') := by
  obtain ⟨S, O, D, W, Bk, f, t⟩ := h
  obtain ⟨S', O', D', W', Bk', f', t'⟩ := h'
  obtain ⟨q1, q2, q3, q4⟩ := q
  dsimp only at q1 q2 q3 q4 hf
  subst q2; subst q3
  rcases hk with rfl | rfl | rfl
  · rw [rateK_1] at hf
    exact hBlk_q1 q1 (fun j hj => q4 (by decide) j (by omega))
  · rw [rateK_3] at hf
    exact hBlk_q3 q1 (fun j hj => q4 (by decide) j (by omega))
  · exact hBlk_q12 q1
theorem hPut1_f {k : Nat} {v : Int32} {h : hT} : (hPut1 k v h).2.2.2.2.2.1 = h.2.2.2.2.2.1 + 1 := by
  obtain ⟨S, O, D, W, Bk, f, t⟩ := h
  unfold hPut1
  by_cases e : k = 12 <;> simp [e]
theorem hPut_q {T : Nat → Int32} {Rc K : Nat → Int64} {k : Nat} (hk : k = 1 ∨ k = 3 ∨ k = 12) {v : Int32} {h h' : hT} (q : hQ k h h') (hf : h.2.2.2.2.2.1 < rateK k) : hQ k (hPut T Rc K k v h) (hPut T Rc K k v h') := by
  have h1 := hPut1_q hk (v := v) q hf
  unfold hPut
  rw [← q.2.1]
  by_cases g : h.2.2.2.2.2.1 + 1 = rateK k
  · rw [if_pos g, if_pos g]
    exact hBlk_q hk h1 (by rw [hPut1_f]; exact g)
  · rw [if_neg g, if_neg g]
    exact h1
/-- the bytes of a list, one behind the other -/
def hFold (θ : tT) (k : Nat) : List Int32 → hT → hT
  | [], h => h
  | v :: r, h => hFold θ k r (hPut θ.1 θ.2.1 θ.2.2.1 k v h)
theorem hFold_app {θ : tT} {k : Nat} : ∀ (a b : List Int32) (h : hT), hFold θ k (a ++ b) h = hFold θ k b (hFold θ k a h)
  | [], _, _ => rfl
  | v :: r, b, h => hFold_app r b (hPut θ.1 θ.2.1 θ.2.2.1 k v h)
theorem hFold_lt {θ : tT} {k : Nat} (hk : k = 1 ∨ k = 3 ∨ k = 12) : ∀ (b : List Int32) {h : hT}, h.2.2.2.2.2.1 < rateK k → (hFold θ k b h).2.2.2.2.2.1 < rateK k
  | [], _, hf => hf
  | _ :: r, _, hf => hFold_lt hk r (hPut_lt hk _ _ hf)
theorem hFold_q {θ : tT} {k : Nat} (hk : k = 1 ∨ k = 3 ∨ k = 12) : ∀ (b : List Int32) {h h' : hT}, hQ k h h' → h.2.2.2.2.2.1 < rateK k → hQ k (hFold θ k b h) (hFold θ k b h')
  | [], _, _, q, _ => q
  | _ :: r, _, _, q, hf => hFold_q hk r (hPut_q hk q hf) (hPut_lt hk _ _ hf)
/-- a stretch of a row as a list -/
def sl (f : Nat → Int32) (a n : Nat) : List Int32 := (List.range n).map (fun i => f (a + i))
theorem sl_len {f : Nat → Int32} {a n : Nat} : (sl f a n).length = n := by simp [sl]
theorem sl_0 {f : Nat → Int32} {a : Nat} : sl f a 0 = [] := rfl
theorem sl_s {f : Nat → Int32} {a n : Nat} : sl f a (n + 1) = sl f a n ++ [f (a + n)] := by simp [sl, List.range_succ]
theorem sl_at {f : Nat → Int32} {a n i : Nat} (h : i < n) : (sl f a n).getD i 0 = f (a + i) := by simp [sl, h, List.getD]
theorem sl_ext {f g : Nat → Int32} {a b n : Nat} (h : ∀ i, i < n → f (a + i) = g (b + i)) : sl f a n = sl g b n := by
  unfold sl
  exact List.map_congr_left (fun i hi => h i (List.mem_range.mp hi))
theorem sl_app {f : Nat → Int32} {a m : Nat} : ∀ n, sl f a (m + n) = sl f a m ++ sl f (a + m) n
  | 0 => by simp [sl_0]
  | n + 1 => by rw [← Nat.add_assoc, sl_s, sl_s, sl_app n, List.append_assoc, Nat.add_assoc]
theorem hPutN_fold {θ : tT} {k : Nat} {f : Nat → Int32} {a : Nat} {h : hT} : ∀ n, hPutN θ.1 θ.2.1 θ.2.2.1 k f a n h = hFold θ k (sl f a n) h
  | 0 => rfl
  | n + 1 => by
    rw [sl_s, hFold_app, ← hPutN_fold n]
    rfl
theorem hZero_fold {θ : tT} {k : Nat} {h : hT} : ∀ n, hZero θ.1 θ.2.1 θ.2.2.1 k n h = hFold θ k (List.replicate n 0) h
  | 0 => rfl
  | n + 1 => by
    rw [List.replicate_succ', hFold_app, ← hZero_fold n]
    rfl
theorem hLen_fold {θ : tT} {k r : Nat} {b : Int64} {h : hT} : ∀ n, hLen θ.1 θ.2.1 θ.2.2.1 k r b n h = hFold θ k ((List.range n).map (fun j => lenB b (r - 1 - j))) h
  | 0 => rfl
  | n + 1 => by
    rw [List.range_succ, List.map_append, hFold_app, ← hLen_fold n]
    rfl
theorem itU_at {v S : Nat → Int64} : ∀ n j, itN (fun i S => vp_updL S i (v i)) n S j = if j < n then v j else S j
  | 0, j => by rw [if_neg (Nat.not_lt_zero j), itN_0]
  | n + 1, j => by
    rw [itN_s, up_at, itU_at n j]
    by_cases h : j = n
    · subst h
      rw [if_pos rfl, if_pos (Nat.lt_succ_self j)]
    · rw [if_neg h]
      by_cases g : j < n
      · rw [if_pos g, if_pos (by omega)]
      · rw [if_neg g, if_neg (by omega)]
theorem zS_at {S : Nat → Int64} (n j : Nat) : zS n S j = if j < n then 0 else S j := itU_at (v := fun _ => 0) n j
theorem bgS_at {k : Nat} {Rt S : Nat → Int64} (n j : Nat) : bgS k Rt n S j = if j < n then (if k = 1 then us64 (Rt j) 32 else Rt j) else S j := itU_at (v := fun i => if k = 1 then us64 (Rt i) 32 else Rt i) n j
theorem hBeg_q {k : Nat} {Rt : Nat → Int64} {h h' : hT} : hQ k (hBeg k Rt h) (hBeg k Rt h') := by
  obtain ⟨S, O, D, W, Bk, f, t⟩ := h
  obtain ⟨S', O', D', W', Bk', f', t'⟩ := h'
  refine ⟨?_, rfl, rfl, fun _ j hj => absurd hj (Nat.not_lt_zero j)⟩
  intro j hj
  show (if k = 12 then zS 25 S else bgS k Rt 8 (zS 25 S)) j = (if k = 12 then zS 25 S' else bgS k Rt 8 (zS 25 S')) j
  by_cases e : k = 12
  · rw [if_pos e, if_pos e, zS_at, zS_at, if_pos hj, if_pos hj]
  · rw [if_neg e, if_neg e, bgS_at, bgS_at, zS_at, zS_at, if_pos hj, if_pos hj]
theorem hBeg_f {k : Nat} {Rt : Nat → Int64} {h : hT} : (hBeg k Rt h).2.2.2.2.2.1 = 0 := by
  obtain ⟨S, O, D, W, Bk, f, t⟩ := h
  rfl
/-- the padding of SHA-2 behind fl bytes in the block, with t bytes in all -/
def padL (k fl : Nat) (t : Int64) : List Int32 := 128 :: (List.replicate (padZ k ((fl + 1) % rateK k)) 0 ++ (List.range (rateK k / 8)).map (fun j => lenB (8 * t) (rateK k / 8 - 1 - j)))
theorem hFin_fold {θ : tT} {k : Nat} (hk : k = 1 ∨ k = 3) {h : hT} (hf : h.2.2.2.2.2.1 < rateK k) : hFin θ.1 θ.2.1 θ.2.2.1 k h = hFold θ k (padL k h.2.2.2.2.2.1 h.2.2.2.2.2.2) h := by
  have hk3 : k = 1 ∨ k = 3 ∨ k = 12 := by rcases hk with q | q <;> simp [q]
  unfold hFin
  rw [if_neg (by rcases hk with q | q <;> simp [q]), hLen_fold, hZero_fold, hPut_fill hk3 _ _ hf]
  unfold padL
  rw [show ∀ r : List Int32, hFold θ k (128 :: r) h = hFold θ k r (hPut θ.1 θ.2.1 θ.2.2.1 k 128 h) from fun _ => rfl, hFold_app]
theorem hFin_12 {T : Nat → Int32} {Rc K S O D W : Nat → Int64} {Bk : Nat → Int32} {f : Nat} {t : Int64} : hFin T Rc K 12 (S, O, D, W, Bk, f, t) = ((itN (pmR T Rc) 24 (sp1 (sp1 S f 31) 135 128, O, D)).1, (itN (pmR T Rc) 24 (sp1 (sp1 S f 31) 135 128, O, D)).2.1, (itN (pmR T Rc) 24 (sp1 (sp1 S f 31) 135 128, O, D)).2.2, W, Bk, 0, t) := by
  unfold hFin
  rw [if_pos rfl]
theorem hFin_q {θ : tT} {k : Nat} (hk : k = 1 ∨ k = 3 ∨ k = 12) {h h' : hT} (q : hQ k h h') (hf : h.2.2.2.2.2.1 < rateK k) : eq25 (hFin θ.1 θ.2.1 θ.2.2.1 k h).1 (hFin θ.1 θ.2.1 θ.2.2.1 k h').1 := by
  by_cases e : k = 12
  · subst e
    obtain ⟨S, O, D, W, Bk, f, t⟩ := h
    obtain ⟨S', O', D', W', Bk', f', t'⟩ := h'
    obtain ⟨q1, q2, q3, q4⟩ := q
    dsimp only at q1 q2 q3 q4 hf
    subst q2; subst q3
    have hr := (rateK_b hk).2
    rw [hFin_12, hFin_12]
    exact eq25_fst (pmN_eq (sp1_eq (sp1_eq q1 (by omega)) (by decide)) 24)
  · have hk2 : k = 1 ∨ k = 3 := by rcases hk with q | q | q <;> simp_all
    rw [hFin_fold hk2 hf, hFin_fold hk2 (by rw [← q.2.1]; exact hf), ← q.2.1, ← q.2.2.1]
    exact (hFold_q hk _ q hf).1
/-- THE HASH of a list of bytes: its state behind the end -/
def hNil : hT := (fun _ => 0, fun _ => 0, fun _ => 0, fun _ => 0, fun _ => 0, 0, 0)
def hSt (θ : tT) (k : Nat) (bs : List Int32) : Nat → Int64 := (hFin θ.1 θ.2.1 θ.2.2.1 k (hFold θ k bs (hBeg k θ.2.2.2 hNil))).1
theorem hSt_eq {θ : tT} {k : Nat} (hk : k = 1 ∨ k = 3 ∨ k = 12) (bs : List Int32) (h : hT) : eq25 (hFin θ.1 θ.2.1 θ.2.2.1 k (hFold θ k bs (hBeg k θ.2.2.2 h))).1 (hSt θ k bs) := by
  have h0 : (hBeg k θ.2.2.2 h).2.2.2.2.2.1 < rateK k := by rw [hBeg_f]; have := (rateK_b hk).1; omega
  exact hFin_q hk (hFold_q hk bs hBeg_q h0) (hFold_lt hk bs h0)
/-- its first n bytes -/
def dgB (k : Nat) (S : Nat → Int64) (n : Nat) : List Int32 := (List.range n).map (fun i => vp_nar .byte (gvB k S i).toInt8.toInt32)
def dgL (θ : tT) (k n : Nat) (bs : List Int32) : List Int32 := dgB k (hSt θ k bs) n
theorem dgL_len {θ : tT} {k n : Nat} {bs : List Int32} : (dgL θ k n bs).length = n := by simp [dgL, dgB]
/-- a list written into a row -/
def wr (f : Nat → Int32) (b : Nat) (L : List Int32) : Nat → Int32 := fun j => if b ≤ j ∧ j < b + L.length then L.getD (j - b) 0 else f j
theorem wr_nil {f : Nat → Int32} {b : Nat} : wr f b [] = f := by
  funext j
  unfold wr
  rw [if_neg (by simp)]
theorem wr_snoc {f : Nat → Int32} {b : Nat} {L : List Int32} {v : Int32} : wr f b (L ++ [v]) = upd (wr f b L) (b + L.length) v := by
  funext j
  unfold wr upd
  by_cases h : j = b + L.length
  · subst h
    rw [if_pos rfl, if_pos (by simp)]
    simp [List.getD]
  · rw [if_neg h]
    dsimp only
    by_cases g : b ≤ j ∧ j < b + L.length
    · rw [if_pos g, if_pos (by simp; omega)]
      have : j - b < L.length := by omega
      simp [List.getD, List.getElem?_append_left this]
    · rw [if_neg g, if_neg (by simp; omega)]
theorem wr_in {f : Nat → Int32} {b j : Nat} {L : List Int32} (h : b ≤ j) (g : j < b + L.length) : wr f b L j = L.getD (j - b) 0 := by
  unfold wr
  rw [if_pos ⟨h, g⟩]
theorem wr_out {f : Nat → Int32} {b j : Nat} {L : List Int32} (h : j < b ∨ b + L.length ≤ j) : wr f b L j = f j := by
  unfold wr
  rw [if_neg (by omega)]
theorem sl_wr {f : Nat → Int32} {b : Nat} {L : List Int32} : sl (wr f b L) b L.length = L := by
  apply List.ext_getElem
  · simp [sl]
  · intro i h1 h2
    have : i < L.length := h2
    simp [sl, wr, this, List.getD]
theorem sl_wr' {f : Nat → Int32} {b n : Nat} {L : List Int32} (h : L.length = n) : sl (wr f b L) b n = L := by subst h; exact sl_wr
theorem sl_wr_out {f : Nat → Int32} {a n b : Nat} {L : List Int32} (h : a + n ≤ b ∨ b + L.length ≤ a) : sl (wr f b L) a n = sl f a n :=
  sl_ext (fun i hi => wr_out (by omega))
theorem gvF_wr {k : Nat} {S : Nat → Int64} {a : Nat} {f : Nat → Int32} : ∀ n, gvF k S a n f = wr f a (dgB k S n)
  | 0 => wr_nil.symm
  | n + 1 => by
    show upd (gvF k S a n f) (a + n) _ = _
    rw [gvF_wr n]
    unfold dgB
    rw [List.range_succ, List.map_append]
    show _ = wr f a (_ ++ [_])
    rw [wr_snoc]
    simp
theorem dgB_eq {k n : Nat} {S S' : Nat → Int64} (h : eq25 S S') (hn : n ≤ 64) : dgB k S n = dgB k S' n := by
  refine List.map_congr_left (fun i hi => ?_)
  have hi := List.mem_range.mp hi
  have : gvB k S i = gvB k S' i := by
    unfold gvB sqB
    rw [h (i / 8) (by omega), h (i / 4) (by omega)]
  rw [this]
theorem mvF_wr {f : Nat → Int32} {a b : Nat} {g : Nat → Int32} : ∀ n, mvF f a b n g = wr g b ((sl f a n).map (vp_nar .byte))
  | 0 => wr_nil.symm
  | n + 1 => by
    show upd (mvF f a b n g) (b + n) _ = _
    rw [mvF_wr n, sl_s, List.map_append]
    show _ = wr g b (_ ++ [_])
    rw [wr_snoc]
    simp [sl_len]
/-- F: a family's function of an address (its head H, its tail Y) and of bytes -/
def fMsg (k nn : Nat) (P H Y d : List Int32) : List Int32 :=
  if k = 12 then P ++ (H ++ Y) ++ d
  else P ++ List.replicate (rateK k - nn) 0 ++ [H.getD 3 0] ++ (H.drop 8) ++ [Y.getD 3 0] ++ (Y.drop 4) ++ d
def fKind (sh : Bool) (nn m : Nat) (ty : Int32) : Nat := if sh then 12 else if 16 < nn ∧ nn < m ∧ ty ≠ 5 ∧ ty ≠ 6 then 3 else 1
def fL (θ : tT) (sh : Bool) (nn : Nat) (P H Y d : List Int32) : List Int32 := dgL θ (fKind sh nn d.length (Y.getD 3 0)) nn (fMsg (fKind sh nn d.length (Y.getD 3 0)) nn P H Y d)
theorem fL_len {θ : tT} {sh : Bool} {nn : Nat} {P H Y d : List Int32} : (fL θ sh nn P H Y d).length = nn := dgL_len
end
section
/-! THE REFERENCE'S ROOM: shapes of all its cells; contents by name -/
def bt (σ : nS) (k : Nat) : Nat → Int32 := match σ k with
  | .inl (_, _, .inl f) => f
  | _ => fun _ => 0
def jt (σ : nS) (k : Nat) : Nat → Int64 := match σ k with
  | .inl (_, _, .inr (.inl f)) => f
  | _ => fun _ => 0
def ox (σ : nS) : Nat → Int32 := match σ 49 with
  | .inr (_, fs) => fun j => (match fs[j]? with
    | some (Value.int v) => v
    | _ => 0)
  | _ => fun _ => 0
def ot (σ : nS) : Int64 := match σ 49 with
  | .inr (_, fs) => (match fs[21]? with
    | some (Value.long v) => v
    | _ => 0)
  | _ => 0
theorem bt_B {G : vG} {σ : nS} {k n : Nat} {f : Nat → Int32} (h : σ k = eB G n f) : bt σ k = f := by unfold bt; rw [h]
theorem bt_I {G : vG} {σ : nS} {k n : Nat} {f : Nat → Int32} (h : σ k = eI G n f) : bt σ k = f := by unfold bt; rw [h]
theorem jt_J {G : vG} {σ : nS} {k n : Nat} {f : Nat → Int64} (h : σ k = eJ G n f) : jt σ k = f := by unfold jt; rw [h]
theorem ox_O {ad : Nat → Nat} {σ : nS} {x : Nat → Int32} {t : Int64} (h : σ 49 = eO 9 (mO ad x t)) : σ 49 = eO 9 (mO ad (ox σ) (ot σ)) := by
  unfold ox ot
  rw [h]
  rfl
/-- the ints that a hash leaves alone -/
def agI (a b : Nat → Int32) : Prop := a 3 = b 3 ∧ a 4 = b 4 ∧ a 41 = b 41 ∧ a 42 = b 42 ∧ a 43 = b 43 ∧ a 44 = b 44 ∧ a 45 = b 45 ∧ a 46 = b 46 ∧ a 47 = b 47 ∧ a 48 = b 48
theorem agI.tr {a b c : Nat → Int32} (h : agI a b) (g : agI b c) : agI a c :=
  ⟨h.1.trans g.1, h.2.1.trans g.2.1, h.2.2.1.trans g.2.2.1, h.2.2.2.1.trans g.2.2.2.1, h.2.2.2.2.1.trans g.2.2.2.2.1, h.2.2.2.2.2.1.trans g.2.2.2.2.2.1, h.2.2.2.2.2.2.1.trans g.2.2.2.2.2.2.1, h.2.2.2.2.2.2.2.1.trans g.2.2.2.2.2.2.2.1, h.2.2.2.2.2.2.2.2.1.trans g.2.2.2.2.2.2.2.2.1, h.2.2.2.2.2.2.2.2.2.trans g.2.2.2.2.2.2.2.2.2⟩
theorem agI.of {a b : Nat → Int32} (h : ∀ j, j ≠ 18 → j ≠ 19 → j ≠ 20 → a j = b j) : agI a b :=
  ⟨h 3 (by decide) (by decide) (by decide), h 4 (by decide) (by decide) (by decide), h 41 (by decide) (by decide) (by decide), h 42 (by decide) (by decide) (by decide), h 43 (by decide) (by decide) (by decide), h 44 (by decide) (by decide) (by decide), h 45 (by decide) (by decide) (by decide), h 46 (by decide) (by decide) (by decide), h 47 (by decide) (by decide) (by decide), h 48 (by decide) (by decide) (by decide)⟩
theorem ox_ag {ad : Nat → Nat} {σ : nS} {x : Nat → Int32} {t : Int64} (h : σ 49 = eO 9 (mO ad x t)) : agI (ox σ) x := by
  unfold ox
  rw [h]
  exact ⟨rfl, rfl, rfl, rfl, rfl, rfl, rfl, rfl, rfl, rfl⟩
/-- the rows of bytes and their lengths -/
def rLs : List Nat := [65536, 0, 0, 0, 0, 0, 0, 0, 0, 0, 0, 0, 0, 0, 0, 0, 0, 0, 0, 0, 0, 0, 128, 64, 64, 64, 256, 65536, 32, 0, 2144, 2048, 32, 64, 64, 64, 0, 32, 32, 32, 32, 0, 0, 0, 0, 0, 0, 0, 0, 0, 65536, 65536, 65536, 65536, 65536, 65536, 65536, 65536, 64, 64, 64, 64, 64, 64, 64, 64, 64, 64, 64, 64, 64, 64, 64, 64]
def rLn (k : Nat) : Nat := rLs.getD k 0
theorem rLn_74 {k : Nat} (h : 0 < rLn k) : k < 74 := by
  by_cases g : k < 74
  · exact g
  · have : rLn k = 0 := by
      unfold rLn List.getD
      rw [List.getElem?_eq_none (show rLs.length ≤ k from Nat.le_of_not_lt g)]
      rfl
    omega
def rOff : List Nat := [1, 2, 5, 6, 11, 12, 13, 14, 15, 16, 17, 29, 36, 49]
theorem rLn_all : ∀ k, k < 74 → 0 < rLn k → k ∉ rOff ∧ rLn k < 2 ^ 31 := by decide
theorem rLn_off {k : Nat} (h : 0 < rLn k) : k ∉ rOff := (rLn_all k (rLn_74 h) h).1
theorem rLn_31 {k : Nat} (h : 0 < rLn k) : rLn k < 2 ^ 31 := (rLn_all k (rLn_74 h) h).2
theorem rLn_pair : ∀ z, z < 16 → rLn (58 + z) = 64 := by decide
theorem rLn_slot : ∀ z, z < 8 → rLn (50 + z) = 65536 := by decide
theorem rOff_hash {k : Nat} (h : k ∉ rOff) : k ∉ [13, 14, 15, 16, 17, 49] := fun q => h (by
  have : ∀ j ∈ [13, 14, 15, 16, 17, 49], j ∈ rOff := by decide
  exact this k q)
theorem rOff_tab {k : Nat} (h : k ∉ rOff) : k ∉ [6, 11, 12] := fun q => h (by
  have : ∀ j ∈ [6, 11, 12], j ∈ rOff := by decide
  exact this k q)
def RS (G : vG) (ad : Nat → Nat) (θ : tT) (x : Nat → Int32) (σ : nS) : Prop :=
  (∀ k, 0 < rLn k → σ k = eB G (rLn k) (bt σ k)) ∧ (σ 2 = eI G 8 (bt σ 2) ∧ σ 36 = eI G 67 (bt σ 36)) ∧ (σ 5 = eJ G 16 θ.2.2.2 ∧ σ 6 = eJ G 80 θ.2.2.1 ∧ σ 11 = eI G 25 θ.1 ∧ σ 12 = eJ G 24 θ.2.1) ∧ (σ 13 = eJ G 25 (jt σ 13) ∧ σ 14 = eJ G 25 (jt σ 14) ∧ σ 15 = eJ G 5 (jt σ 15) ∧ σ 16 = eJ G 80 (jt σ 16) ∧ σ 17 = eB G 128 (bt σ 17)) ∧ (σ 1 = eR G 8 (fun i => some (ad (50 + i))) ∧ σ 29 = eR G 16 (fun i => some (ad (58 + i)))) ∧ σ 49 = eO 9 (mO ad (ox σ) (ot σ)) ∧ agI (ox σ) x
section R1
variable {G : vG} {B : Nat} {l : Launch} {ad : Nat → Nat} {N : Nat} {θ : tT} {x : Nat → Int32} {σ : nS}
theorem RS.b (h : RS G ad θ x σ) (k n : Nat) (hk : rLn k = n) (h0 : 0 < n) : σ k = eB G n (bt σ k) := by
  subst hk
  exact h.1 k h0
theorem RS.len (h : RS G ad θ x σ) : σ 2 = eI G 8 (bt σ 2) := h.2.1.1
theorem RS.dig (h : RS G ad θ x σ) : σ 36 = eI G 67 (bt σ 36) := h.2.1.2
theorem RS.tab (h : RS G ad θ x σ) : σ 5 = eJ G 16 θ.2.2.2 ∧ σ 6 = eJ G 80 θ.2.2.1 ∧ σ 11 = eI G 25 θ.1 ∧ σ 12 = eJ G 24 θ.2.1 := h.2.2.1
theorem RS.slot (h : RS G ad θ x σ) : σ 1 = eR G 8 (fun i => some (ad (50 + i))) := h.2.2.2.2.1.1
theorem RS.pair (h : RS G ad θ x σ) : σ 29 = eR G 16 (fun i => some (ad (58 + i))) := h.2.2.2.2.1.2
theorem RS.obj (h : RS G ad θ x σ) : σ 49 = eO 9 (mO ad (ox σ) (ot σ)) := h.2.2.2.2.2.1
theorem RS.ag (h : RS G ad θ x σ) : agI (ox σ) x := h.2.2.2.2.2.2
theorem RS.i3 (h : RS G ad θ x σ) : ox σ 3 = x 3 := h.ag.1
theorem RS.i4 (h : RS G ad θ x σ) : ox σ 4 = x 4 := h.ag.2.1
theorem RS.i41 (h : RS G ad θ x σ) : ox σ 41 = x 41 := h.ag.2.2.1
theorem RS.i42 (h : RS G ad θ x σ) : ox σ 42 = x 42 := h.ag.2.2.2.1
theorem RS.i43 (h : RS G ad θ x σ) : ox σ 43 = x 43 := h.ag.2.2.2.2.1
theorem RS.i44 (h : RS G ad θ x σ) : ox σ 44 = x 44 := h.ag.2.2.2.2.2.1
theorem RS.i45 (h : RS G ad θ x σ) : ox σ 45 = x 45 := h.ag.2.2.2.2.2.2.1
theorem RS.i46 (h : RS G ad θ x σ) : ox σ 46 = x 46 := h.ag.2.2.2.2.2.2.2.1
theorem RS.i47 (h : RS G ad θ x σ) : ox σ 47 = x 47 := h.ag.2.2.2.2.2.2.2.2.1
theorem RS.i48 (h : RS G ad θ x σ) : ox σ 48 = x 48 := h.ag.2.2.2.2.2.2.2.2.2
theorem bt_same {σ' : nS} {k : Nat} (h : σ' k = σ k) : bt σ' k = bt σ k := by unfold bt; rw [h]
theorem jt_same {σ' : nS} {k : Nat} (h : σ' k = σ k) : jt σ' k = jt σ k := by unfold jt; rw [h]
theorem ox_same {σ' : nS} (h : σ' 49 = σ 49) : ox σ' = ox σ := by unfold ox; rw [h]
theorem ot_same {σ' : nS} (h : σ' 49 = σ 49) : ot σ' = ot σ := by unfold ot; rw [h]
/-- a row of bytes anew -/
theorem RS.up (h : RS G ad θ x σ) {k n : Nat} (hk : rLn k = n) (h0 : 0 < n) (f : Nat → Int32) : RS G ad θ x (va_up σ k (eB G n f)) := by
  subst hk
  have ho := rLn_off h0
  have q : ∀ j, j ≠ k → va_up σ k (eB G (rLn k) f) j = σ j := fun j hj => by simp [va_up, hj]
  have r : ∀ j, j ∈ rOff → va_up σ k (eB G (rLn k) f) j = σ j := fun j hj => q j (fun e => ho (e ▸ hj))
  obtain ⟨h1, ⟨h2, h3⟩, ⟨h4, h5, h6, h7⟩, ⟨h8, h9, ha, hb, hc⟩, ⟨hd, he⟩, hf, hg⟩ := h
  refine ⟨fun j hj => ?_, ⟨?_, ?_⟩, ⟨?_, ?_, ?_, ?_⟩, ⟨?_, ?_, ?_, ?_, ?_⟩, ⟨?_, ?_⟩, ?_, ?_⟩
  · by_cases e : j = k
    · subst e
      have : va_up σ j (eB G (rLn j) f) j = eB G (rLn j) f := by simp [va_up]
      rw [this, bt_B this]
    · rw [bt_same (q j e), q j e]
      exact h1 j hj
  · rw [bt_same (r 2 (by decide)), r 2 (by decide)]; exact h2
  · rw [bt_same (r 36 (by decide)), r 36 (by decide)]; exact h3
  · rw [r 5 (by decide)]; exact h4
  · rw [r 6 (by decide)]; exact h5
  · rw [r 11 (by decide)]; exact h6
  · rw [r 12 (by decide)]; exact h7
  · rw [jt_same (r 13 (by decide)), r 13 (by decide)]; exact h8
  · rw [jt_same (r 14 (by decide)), r 14 (by decide)]; exact h9
  · rw [jt_same (r 15 (by decide)), r 15 (by decide)]; exact ha
  · rw [jt_same (r 16 (by decide)), r 16 (by decide)]; exact hb
  · rw [bt_same (r 17 (by decide)), r 17 (by decide)]; exact hc
  · rw [r 1 (by decide)]; exact hd
  · rw [r 29 (by decide)]; exact he
  · rw [ox_same (r 49 (by decide)), ot_same (r 49 (by decide)), r 49 (by decide)]; exact hf
  · rw [ox_same (r 49 (by decide))]; exact hg
theorem RS.upI (h : RS G ad θ x σ) {k n : Nat} (hk : (k = 2 ∧ n = 8) ∨ (k = 36 ∧ n = 67)) (f : Nat → Int32) : RS G ad θ x (va_up σ k (eI G n f)) := by
  obtain ⟨h1, ⟨h2, h3⟩, ⟨h4, h5, h6, h7⟩, ⟨h8, h9, ha, hb, hc⟩, ⟨hd, he⟩, hf, hg⟩ := h
  have hz : rLn 2 = 0 ∧ rLn 36 = 0 := by decide
  have h1' : ∀ j, 0 < rLn j → va_up σ k (eI G n f) j = eB G (rLn j) (bt (va_up σ k (eI G n f)) j) := fun j hj => by
    have e : j ≠ k := fun q => by rcases hk with ⟨rfl, _⟩ | ⟨rfl, _⟩ <;> subst q <;> omega
    have q : va_up σ k (eI G n f) j = σ j := by simp [va_up, e]
    rw [bt_same q, q]
    exact h1 j hj
  rcases hk with ⟨rfl, rfl⟩ | ⟨rfl, rfl⟩
  · exact ⟨h1', ⟨rfl, h3⟩, ⟨h4, h5, h6, h7⟩, ⟨h8, h9, ha, hb, hc⟩, ⟨hd, he⟩, hf, hg⟩
  · exact ⟨h1', ⟨h2, rfl⟩, ⟨h4, h5, h6, h7⟩, ⟨h8, h9, ha, hb, hc⟩, ⟨hd, he⟩, hf, hg⟩
/-- the object's ints anew -/
theorem RS.upO (h : RS G ad θ x σ) {x1 x2 : Nat → Int32} {t : Int64} (hx : agI x1 x2) : RS G ad θ x2 (va_up σ 49 (eO 9 (mO ad x1 t))) := by
  obtain ⟨h1, ⟨h2, h3⟩, ⟨h4, h5, h6, h7⟩, ⟨h8, h9, ha, hb, hc⟩, ⟨hd, he⟩, hf, hg⟩ := h
  have hz : rLn 49 = 0 := by decide
  have h1' : ∀ j, 0 < rLn j → va_up σ 49 (eO 9 (mO ad x1 t)) j = eB G (rLn j) (bt (va_up σ 49 (eO 9 (mO ad x1 t))) j) := fun j hj => by
    have e : j ≠ 49 := fun q => by subst q; omega
    have q : va_up σ 49 (eO 9 (mO ad x1 t)) j = σ j := by simp [va_up, e]
    rw [bt_same q, q]
    exact h1 j hj
  exact ⟨h1', ⟨h2, h3⟩, ⟨h4, h5, h6, h7⟩, ⟨h8, h9, ha, hb, hc⟩, ⟨hd, he⟩, ox_O (ad := ad) (x := x1) (t := t) rfl, (ox_ag (ad := ad) (x := x1) (t := t) rfl).tr hx⟩
/-- the hash's cells anew -/
theorem RS.g (h : RS G ad θ x σ) {x' : Nat → Int32} (hx : agI x' x) (h' : hT) : RS G ad θ x (gσ G ad σ x' h') := by
  obtain ⟨h1, ⟨h2, h3⟩, ⟨h4, h5, h6, h7⟩, ⟨h8, h9, ha, hb, hc⟩, ⟨hd, he⟩, hf, hg⟩ := h
  have h1' : ∀ j, 0 < rLn j → gσ G ad σ x' h' j = eB G (rLn j) (bt (gσ G ad σ x' h') j) := fun j hj => by
    have q : gσ G ad σ x' h' j = σ j := by
      have := rOff_hash (rLn_off hj)
      simp only [List.mem_cons, List.not_mem_nil, or_false, not_or] at this
      simp [gσ, va_up, this]
    rw [bt_same q, q]
    exact h1 j hj
  exact ⟨h1', ⟨h2, h3⟩, ⟨h4, h5, h6, h7⟩, ⟨rfl, rfl, rfl, rfl, rfl⟩, ⟨hd, he⟩, ox_O (ad := ad) (x := x') (t := h'.2.2.2.2.2.2) rfl, (ox_ag (ad := ad) (x := x') (t := h'.2.2.2.2.2.2) rfl).tr hx⟩
/-- the stream that stands there -/
def hOf (σ : nS) (k : Nat) : hT := (jt σ 13, jt σ 14, jt σ 15, jt σ 16, bt σ 17, k, ot σ)
theorem RS.fix (h : RS G ad θ x σ) : gσ G ad σ (ox σ) (hOf σ 0) = σ := by
  obtain ⟨h1, ⟨h2, h3⟩, ⟨h4, h5, h6, h7⟩, ⟨h8, h9, ha, hb, hc⟩, ⟨hd, he⟩, hf, hg⟩ := h
  unfold gσ hOf
  rw [n_id h8, n_id h9, n_id ha, n_id hb, n_id hc, n_id hf]
theorem gσ_off {x' : Nat → Int32} {h' : hT} {k : Nat} (h : ¬ (13 ≤ k ∧ k ≤ 17 ∨ k = 49)) : gσ G ad σ x' h' k = σ k := by
  have h1 : k ≠ 13 := by omega
  have h2 : k ≠ 14 := by omega
  have h3 : k ≠ 15 := by omega
  have h4 : k ≠ 16 := by omega
  have h5 : k ≠ 17 := by omega
  have h6 : k ≠ 49 := by omega
  simp [gσ, va_up, h1, h2, h3, h4, h5, h6]
theorem rLn_h {k : Nat} (h : 0 < rLn k) : ¬ (13 ≤ k ∧ k ≤ 17 ∨ k = 49) := by
  have := rOff_hash (rLn_off h)
  simp only [List.mem_cons, List.not_mem_nil, or_false, not_or] at this
  omega
theorem hashed_post {ko no b : Nat} {L fo g : _} (hS : RS G ad θ x σ) (hko : rLn ko = no) (ho0 : 0 < no) {x' : Nat → Int32} {h' : hT} (hx : ∀ j, j ≠ 18 → j ≠ 19 → j ≠ 20 → x' j = ox σ j) (hf : fo = bt σ ko) (hg : g = wr fo b L) {σ' : nS} (hσ : σ' = gσ G ad (va_up σ ko (eB G no g)) x' h') : RS G ad θ x σ' ∧ (∀ k, ¬ (13 ≤ k ∧ k ≤ 17 ∨ k = 49 ∨ k = ko) → σ' k = σ k) ∧ bt σ' ko = wr (bt σ ko) b L := by
  subst hσ
  refine ⟨(hS.up hko ho0 g).g ((agI.of hx).tr hS.ag) h', fun k hk => ?_, ?_⟩
  · rw [gσ_off (by omega)]
    have : k ≠ ko := by omega
    simp [va_up, this]
  · have : gσ G ad (va_up σ ko (eB G no g)) x' h' ko = eB G no g := by
      rw [gσ_off (rLn_h (by omega))]
      simp [va_up]
    rw [bt_B this, hg, hf]
theorem sl_one {f : Nat → Int32} {a : Nat} : sl f a 1 = [f a] := by simp [sl]
theorem sl_drop {f : Nat → Int32} {a n m : Nat} (h : m ≤ n) : (sl f a n).drop m = sl f (a + m) (n - m) := by
  have : n = m + (n - m) := by omega
  rw [this, sl_app, List.drop_left' sl_len]
  simp
theorem hr12_wr {nn : Nat} {P A f g : Nat → Int32} {a m b : Nat} {h : hT} (hn : nn ≤ 64) (d : List Int32) (hd : d = sl f a m) : hr12 θ.1 θ.2.1 θ.2.2.1 θ.2.2.2 nn P A f a m h b g = wr g b (fL θ true nn (sl P 0 nn) (sl A 0 16) (sl A 16 16) d) := by
  subst hd
  unfold hr12
  rw [gvF_wr]
  refine congrArg (wr g b) ?_
  unfold fL dgL
  show dgB 12 _ nn = dgB 12 (hSt θ 12 (fMsg 12 nn _ _ _ _)) nn
  refine dgB_eq (fun j hj => ?_) hn
  unfold hs12
  rw [hPutN_fold, hPutN_fold, hPutN_fold, ← hFold_app, ← hFold_app]
  have e : fMsg 12 nn (sl P 0 nn) (sl A 0 16) (sl A 16 16) (sl f a m) = sl P 0 nn ++ sl A 0 32 ++ sl f a m := by
    unfold fMsg
    have e2 : sl A 0 32 = sl A 0 16 ++ sl A 16 16 := sl_app (f := A) (a := 0) (m := 16) 16
    rw [if_pos rfl, e2]
  rw [e, List.append_assoc]
  exact hSt_eq (Or.inr (Or.inr rfl)) _ h j hj
theorem hr2_wr {k nn : Nat} (hk : k = 1 ∨ k = 3) {P A f g : Nat → Int32} {a m b : Nat} {h : hT} (hn : nn ≤ 64) (d : List Int32) (hd : d = sl f a m) (hK : fKind false nn m (A 19) = k) : hr2 θ.1 θ.2.1 θ.2.2.1 θ.2.2.2 k nn P A f a m h b g = wr g b (fL θ false nn (sl P 0 nn) (sl A 0 16) (sl A 16 16) d) := by
  subst hd
  have hk3 : k = 1 ∨ k = 3 ∨ k = 12 := by rcases hk with q | q <;> simp [q]
  unfold hr2
  rw [gvF_wr]
  refine congrArg (wr g b) ?_
  unfold fL dgL
  rw [sl_at (by decide), sl_len, hK]
  refine dgB_eq (fun j hj => ?_) hn
  unfold hs2
  have e : fMsg k nn (sl P 0 nn) (sl A 0 16) (sl A 16 16) (sl f a m) = sl P 0 nn ++ List.replicate (rateK k - nn) 0 ++ [A 3] ++ sl A 8 8 ++ [A 19] ++ sl A 20 12 ++ sl f a m := by
    unfold fMsg
    rw [if_neg (by rcases hk with q | q <;> simp [q]), sl_at (by decide), sl_at (by decide), sl_drop (by decide), sl_drop (by decide)]
  rw [e, hPutN_fold, hPutN_fold, hPutN_fold, hPutN_fold, hZero_fold]
  have := hSt_eq (θ := θ) hk3 (sl P 0 nn ++ List.replicate (rateK k - nn) 0 ++ [A 3] ++ sl A 8 8 ++ [A 19] ++ sl A 20 12 ++ sl f a m) h j hj
  rw [hFold_app, hFold_app, hFold_app, hFold_app, hFold_app, hFold_app] at this
  exact this
theorem r_hashed (I : nI1 ad N) (hN : ∀ k, k < 74 → k < N) (hS : RS G ad θ x σ) {kx nx ko no nn : Nat} {sh : Bool} (h41 : x 41 = nI nn) (hnn : nn ≤ 32) (h48 : x 48 = if sh then 1 else 0) (hkx : rLn kx = nx) (hx0 : 0 < nx) (hko : rLn ko = no) (ho0 : 0 < no) (a mm b : Nat) (ha : a + mm ≤ nx) (hb : b + nn ≤ no) : nOk G B l ad N yX12_hashed cX12_hashed 8 none 5 0 0 [.ref (ad 49), .ref (ad kx), .int (nI a), .int (nI mm), .ref (ad ko), .int (nI b)] σ (fun r σ' => r = none ∧ RS G ad θ x σ' ∧ (∀ k, ¬ (13 ≤ k ∧ k ≤ 17 ∨ k = 49 ∨ k = ko) → σ' k = σ k) ∧ bt σ' ko = wr (bt σ ko) b (fL θ sh nn (sl (bt σ 37) 0 nn) (sl (bt σ 28) 0 16) (sl (bt σ 28) 16 16) (sl (bt σ kx) a mm))) := by
  subst hkx; subst hko
  have t := hS.tab
  have hx1 := rLn_31 hx0
  have ho1 := rLn_31 ho0
  have e41 : ox σ 41 = nI nn := hS.i41.trans h41
  have key : nOk G B l ad N yX12_hashed cX12_hashed 8 none 5 0 0 [.ref (ad 49), .ref (ad kx), .int (nI a), .int (nI mm), .ref (ad ko), .int (nI b)] (gσ G ad σ (ox σ) (hOf σ 0)) (fun r σ' => r = none ∧ RS G ad θ x σ' ∧ (∀ k, ¬ (13 ≤ k ∧ k ≤ 17 ∨ k = 49 ∨ k = ko) → σ' k = σ k) ∧ bt σ' ko = wr (bt σ ko) b (fL θ sh nn (sl (bt σ 37) 0 nn) (sl (bt σ 28) 0 16) (sl (bt σ 28) 16 16) (sl (bt σ kx) a mm))) := by
    cases sh with
    | true =>
      refine nOk.weak (c_hashed12 I hN t.2.2.1 t.2.2.2 t.2.1 t.1 (hS.b 37 32 rfl (by decide)) (hS.b 28 32 rfl (by decide)) (hN kx (rLn_74 hx0)) (rOff_hash (rLn_off hx0)) (hS.b kx _ rfl hx0) (hN ko (rLn_74 ho0)) (rOff_hash (rLn_off ho0)) (rOff_tab (rLn_off ho0)) (hS.b ko _ rfl ho0) e41 hnn a mm b ha hx1 hb ho1 (hS.i48.trans h48) _ _ _ _ _ _ _) ?_
      rintro r σ' ⟨h1, x', h', h2, h3⟩
      exact ⟨h1, hashed_post hS rfl ho0 h2 rfl (hr12_wr (by omega) _ rfl) h3⟩
    | false =>
      by_cases g : 16 < nn ∧ nn < mm ∧ bt σ 28 19 ≠ 5 ∧ bt σ 28 19 ≠ 6
      · refine nOk.weak (c_hashed3 I hN t.2.2.1 t.2.2.2 t.2.1 t.1 (hS.b 37 32 rfl (by decide)) (hS.b 28 32 rfl (by decide)) (hN kx (rLn_74 hx0)) (rOff_hash (rLn_off hx0)) (hS.b kx _ rfl hx0) (hN ko (rLn_74 ho0)) (rOff_hash (rLn_off ho0)) (rOff_tab (rLn_off ho0)) (hS.b ko _ rfl ho0) e41 hnn a mm b ha hx1 hb ho1 (by omega) (hS.i48.trans h48) g.1 g.2.1 g.2.2.1 g.2.2.2 _ _ _ _ _ _ _) ?_
        rintro r σ' ⟨h1, x', h', h2, h3⟩
        exact ⟨h1, hashed_post hS rfl ho0 h2 rfl (hr2_wr (Or.inr rfl) (by omega) _ rfl (by unfold fKind; rw [if_neg (by decide), if_pos g])) h3⟩
      · have g' : nn ≤ 16 ∨ mm ≤ nn ∨ bt σ 28 19 = 5 ∨ bt σ 28 19 = 6 := by
          by_cases q1 : 16 < nn
          · by_cases q2 : nn < mm
            · by_cases q3 : bt σ 28 19 = 5
              · exact Or.inr (Or.inr (Or.inl q3))
              · by_cases q4 : bt σ 28 19 = 6
                · exact Or.inr (Or.inr (Or.inr q4))
                · exact absurd ⟨q1, q2, q3, q4⟩ g
            · exact Or.inr (Or.inl (by omega))
          · exact Or.inl (by omega)
        refine nOk.weak (c_hashed1 I hN t.2.2.1 t.2.2.2 t.2.1 t.1 (hS.b 37 32 rfl (by decide)) (hS.b 28 32 rfl (by decide)) (hN kx (rLn_74 hx0)) (rOff_hash (rLn_off hx0)) (hS.b kx _ rfl hx0) (hN ko (rLn_74 ho0)) (rOff_hash (rLn_off ho0)) (rOff_tab (rLn_off ho0)) (hS.b ko _ rfl ho0) e41 hnn a mm b ha hx1 hb ho1 (by omega) (hS.i48.trans h48) g' _ _ _ _ _ _ _) ?_
        rintro r σ' ⟨h1, x', h', h2, h3⟩
        exact ⟨h1, hashed_post hS rfl ho0 h2 rfl (hr2_wr (Or.inl rfl) (by omega) _ rfl (by unfold fKind; rw [if_neg (by decide), if_neg g])) h3⟩
  rwa [hS.fix] at key
end R1
end
section
/-! rows of references; loops over pictures; the context of a tree -/
section R2a
variable {G : vG} {B : Nat} {p : Program} {l : Launch} {e : Env} {R : Room} {s : State} {m : MethodId} {args : Array Value} {below : List Frame} {meth : Method} {c : Code} {nL cells slots : Nat} {Q : State → Prop} {cc : ByteArray} {ret : Option FieldType} {own : String} {pc pc' : Nat} {lv : List (Nat × Value)} {st : List Value} {w : vW} {ad : Nat → Nat} {N : Nat} {σ : nS} {hd : Nat}
theorem v_aald (C : vC G B p m meth c cc nL ret s args own) {a n b : Nat} {f : Nat → Option Nat} {i : Int32} (hd : vD cc pc .aaload 1 pc') (hw : w a = some (eR G n f)) (j : Nat) (hi : i = nI j) (hj : j < n) (hn : n < 2 ^ 31) (hf : f j = some b) (k : V G B p l e R s m args below meth c nL cells slots Q w pc' lv (.ref b :: st)) : V G B p l e R s m args below meth c nL cells slots Q w pc lv (.int i :: .ref a :: st) := by
  subst hi
  intro H locs ls h1 h2 h3
  have k := k H locs ls h1 h2 h3
  rw [hd.2] at k
  obtain ⟨ws, hP, hD, hH⟩ := h1
  obtain ⟨q0, hq⟩ := hH _ _ hw
  have hin : vp_in (nI j) n := vp_in_nI hj hn
  have hlt : (nI j).toNatClampNeg < n := Nat.not_le.mp fun q => hin (Or.inr q)
  have hv : va_rf (f (nI j).toNatClampNeg) = .ref b := by rw [nI_clamp (Nat.lt_trans hj hn), hf]; rfl
  exact W.aald (v := .ref b) (ty := .array .byte) C.1.1 C.1.2.1 (hP q0 _ hq) ((C.2.1.1.2 3 _ rfl).1 n (fun j => va_rf (f j))) rfl (fun q => by cases q) (by show ¬ (_ ∨ (arrV _ _ _).slots.size ≤ _); rw [arrV_size]; exact hin) (by show (arrV _ _ _).slots[_]? = _; rw [arrV_read _ _ hlt, hv]) rfl rfl hd.1 k
theorem n_aald (C : vC G B p m meth c cc nL ret s args own) (I : nI1 ad N) {k n b : Nat} {f : Nat → Option Nat} {i : Int32} (hd : vD cc pc .aaload 1 pc') (hk : k < N) (hs : σ k = eR G n f) (j : Nat) (hi : i = nI j) (hj : j < n) (hn : n < 2 ^ 31) (hf : f j = some b) (kk : V G B p l e R s m args below meth c nL cells slots Q (nW ad N σ) pc' lv (.ref b :: st)) : V G B p l e R s m args below meth c nL cells slots Q (nW ad N σ) pc lv (.int i :: .ref (ad k) :: st) :=
  v_aald C hd ((nW_at I hk).trans (congrArg some hs)) j hi hj hn hf kk
theorem v_forP (P : Nat → nS → Prop) (L : Nat → List (Nat × Value)) (n : Nat) (hend : ∀ τ, P n τ → V G B p l e R s m args below meth c nL cells slots Q (nW ad N τ) hd (L n) st) (hstep : ∀ i, i < n → (∀ τ, P (i + 1) τ → V G B p l e R s m args below meth c nL cells slots Q (nW ad N τ) hd (L (i + 1)) st) → ∀ τ, P i τ → V G B p l e R s m args below meth c nL cells slots Q (nW ad N τ) hd (L i) st) : ∀ τ, P 0 τ → V G B p l e R s m args below meth c nL cells slots Q (nW ad N τ) hd (L 0) st :=
  v_for (P := fun i => ∀ τ, P i τ → V G B p l e R s m args below meth c nL cells slots Q (nW ad N τ) hd (L i) st) n hend hstep
/-- a picture by a new name -/
theorem v_pic {τ : nS} (k : ∀ ρ, ρ = τ → V G B p l e R s m args below meth c nL cells slots Q (nW ad N ρ) pc lv st) : V G B p l e R s m args below meth c nL cells slots Q (nW ad N τ) pc lv st := k τ rfl
end R2a
theorem vi_c {a b : Int32} {s t : List Value} (h : a = b) (hs : s = t) : (Value.int a :: s) = (Value.int b :: t) := by rw [h, hs]
theorem vi_k {v : Value} {s t : List Value} (hs : s = t) : (v :: s) = (v :: t) := by rw [hs]
theorem wr_wr {f : Nat → Int32} {b : Nat} {L L' : List Int32} (h : L.length = L'.length) : wr (wr f b L) b L' = wr f b L' := by
  funext j
  unfold wr
  by_cases g : b ≤ j ∧ j < b + L'.length
  · rw [if_pos g, if_pos g]
  · rw [if_neg g, if_neg g, if_neg (by rw [h]; exact g)]
theorem wr_sl {f : Nat → Int32} {b n : Nat} : wr f b (sl f b n) = f := by
  funext j
  unfold wr
  rw [sl_len]
  by_cases g : b ≤ j ∧ j < b + n
  · rw [if_pos g, sl_at (by omega)]
    congr 1
    omega
  · rw [if_neg g]
theorem wr_app {f : Nat → Int32} {b c : Nat} {L L' : List Int32} (h : c = b + L.length) : wr (wr f b L) c L' = wr f b (L ++ L') := by
  subst h
  funext j
  unfold wr
  rw [List.length_append]
  by_cases g : b + L.length ≤ j ∧ j < b + L.length + L'.length
  · rw [if_pos g, if_pos (by omega)]
    have : L.length ≤ j - b := by omega
    simp only [List.getD, List.getElem?_append_right this]
    congr 2
    omega
  · rw [if_neg g]
    by_cases q : b ≤ j ∧ j < b + L.length
    · rw [if_pos q, if_pos (by omega)]
      have : j - b < L.length := by omega
      simp only [List.getD, List.getElem?_append_left this]
    · rw [if_neg q, if_neg (by omega)]
/-- n lists one behind the other -/
def cat (f : Nat → List Int32) : Nat → List Int32
  | 0 => []
  | n + 1 => cat f n ++ f n
theorem cat_len {f : Nat → List Int32} {k : Nat} (h : ∀ i, (f i).length = k) : ∀ n, (cat f n).length = n * k
  | 0 => by simp [cat]
  | n + 1 => by simp [cat, cat_len h n, h n, Nat.succ_mul]
/-- the address's tail -/
def tyL (t x y z : Int32) : List Int32 := [b4 t 0, b4 t 1, b4 t 2, b4 t 3, b4 x 0, b4 x 1, b4 x 2, b4 x 3, b4 y 0, b4 y 1, b4 y 2, b4 y 3, b4 z 0, b4 z 1, b4 z 2, b4 z 3]
theorem tyF_lo {t x y z : Int32} {A : Nat → Int32} : sl (tyF t x y z 4 A) 0 16 = sl A 0 16 := rfl
theorem tyF_hi {t x y z : Int32} {A : Nat → Int32} : sl (tyF t x y z 4 A) 16 16 = tyL t x y z := rfl
/-- F at a tree: type, three words, bytes -/
abbrev fT : Type := Nat → Nat → Nat → Nat → List Int32 → List Int32
def fF (θ : tT) (sh : Bool) (nn : Nat) (P H : List Int32) : fT := fun t x y z d => fL θ sh nn P H (tyL (nI t) (nI x) (nI y) (nI z)) d
theorem fF_len {θ : tT} {sh : Bool} {nn : Nat} {P H : List Int32} (t x y z : Nat) (d : List Int32) : (fF θ sh nn P H t x y z d).length = nn := fL_len
def RC (G : vG) (ad : Nat → Nat) (θ : tT) (x : Nat → Int32) (sh : Bool) (nn : Nat) (P H K : List Int32) (σ : nS) : Prop :=
  RS G ad θ x σ ∧ (x 41 = nI nn ∧ (nn = 16 ∨ nn = 24 ∨ nn = 32) ∧ x 48 = if sh then 1 else 0) ∧ sl (bt σ 28) 0 16 = H ∧ sl (bt σ 37) 0 nn = P ∧ sl (bt σ 38) 0 nn = K
section R2b
variable {G : vG} {B : Nat} {l : Launch} {ad : Nat → Nat} {N : Nat} {θ : tT} {x : Nat → Int32} {σ : nS} {sh : Bool} {nn : Nat} {P H K : List Int32}
theorem RC.s (h : RC G ad θ x sh nn P H K σ) : RS G ad θ x σ := h.1
theorem RC.qnn (h : RC G ad θ x sh nn P H K σ) : nn = 16 ∨ nn = 24 ∨ nn = 32 := h.2.1.2.1
theorem RC.n (h : RC G ad θ x sh nn P H K σ) : ox σ 41 = nI nn := h.1.i41.trans h.2.1.1
theorem RC.qsh (h : RC G ad θ x sh nn P H K σ) : x 48 = if sh then 1 else 0 := h.2.1.2.2
theorem RC.qH (h : RC G ad θ x sh nn P H K σ) : sl (bt σ 28) 0 16 = H := h.2.2.1
theorem RC.qP (h : RC G ad θ x sh nn P H K σ) : sl (bt σ 37) 0 nn = P := h.2.2.2.1
theorem RC.qK (h : RC G ad θ x sh nn P H K σ) : sl (bt σ 38) 0 nn = K := h.2.2.2.2
/-- the context stays where its rows stay -/
theorem RC.keep (h : RC G ad θ x sh nn P H K σ) {σ' : nS} (hS : RS G ad θ x σ') (h28 : σ' 28 = σ 28) (h37 : σ' 37 = σ 37) (h38 : σ' 38 = σ 38) : RC G ad θ x sh nn P H K σ' :=
  ⟨hS, h.2.1, by rw [bt_same h28]; exact h.qH, by rw [bt_same h37]; exact h.qP, by rw [bt_same h38]; exact h.qK⟩
theorem rc_type (I : nI1 ad N) (hN : ∀ k, k < 74 → k < N) (hC : RC G ad θ x sh nn P H K σ) (ty px py pz : Nat) : nOk G B l ad N yX12_type cX12_type 6 none 0 0 0 [.ref (ad 49), .int (nI ty), .int (nI px), .int (nI py), .int (nI pz)] σ (fun r σ' => r = none ∧ RC G ad θ x sh nn P H K σ' ∧ (∀ k, ¬ (k = 28) → σ' k = σ k) ∧ sl (bt σ' 28) 16 16 = tyL (nI ty) (nI px) (nI py) (nI pz)) := by
  refine nOk.weak (c_type I hN hC.s.obj (hC.s.b 28 32 rfl (by decide)) (nI ty) (nI px) (nI py) (nI pz)) ?_
  rintro r σ' ⟨h1, rfl⟩
  refine ⟨h1, ⟨hC.s.up rfl (by decide) _, hC.2.1, ?_, hC.qP, hC.qK⟩, fun k hk => by simp [va_up, hk], ?_⟩
  · show sl (tyF (nI ty) (nI px) (nI py) (nI pz) 4 (bt σ 28)) 0 16 = H
    rw [tyF_lo]
    exact hC.qH
  · show sl (tyF (nI ty) (nI px) (nI py) (nI pz) 4 (bt σ 28)) 16 16 = _
    exact tyF_hi
theorem rc_hashed (I : nI1 ad N) (hN : ∀ k, k < 74 → k < N) (hC : RC G ad θ x sh nn P H K σ) {ty px py pz : Nat} (hY : sl (bt σ 28) 16 16 = tyL (nI ty) (nI px) (nI py) (nI pz)) {kx nx ko no : Nat} (hkx : rLn kx = nx) (hx0 : 0 < nx) (hko : rLn ko = no) (ho0 : 0 < no) (hfr : ko ≠ 28 ∧ ko ≠ 37 ∧ ko ≠ 38) (a mm b : Nat) (ha : a + mm ≤ nx) (hb : b + nn ≤ no) : nOk G B l ad N yX12_hashed cX12_hashed 8 none 5 0 0 [.ref (ad 49), .ref (ad kx), .int (nI a), .int (nI mm), .ref (ad ko), .int (nI b)] σ (fun r σ' => r = none ∧ RC G ad θ x sh nn P H K σ' ∧ (∀ k, ¬ (13 ≤ k ∧ k ≤ 17 ∨ k = 49 ∨ k = ko) → σ' k = σ k) ∧ bt σ' ko = wr (bt σ ko) b (fF θ sh nn P H ty px py pz (sl (bt σ kx) a mm))) := by
  have hn := hC.qnn
  refine nOk.weak (r_hashed I hN hC.s hC.2.1.1 (by omega) hC.qsh hkx hx0 hko ho0 a mm b ha hb) ?_
  rintro r σ' ⟨h1, h2, h3, h4⟩
  refine ⟨h1, hC.keep h2 (h3 28 (by omega)) (h3 37 (by omega)) (h3 38 (by omega)), h3, ?_⟩
  rw [h4, hY, hC.qH, hC.qP]
  rfl
theorem rc_move (I : nI1 ad N) (hN : ∀ k, k < 74 → k < N) (hC : RC G ad θ x sh nn P H K σ) {kx nx ko no : Nat} (hkx : rLn kx = nx) (hx0 : 0 < nx) (hko : rLn ko = no) (ho0 : 0 < no) (hne : kx ≠ ko) (hfr : ko ≠ 28 ∧ ko ≠ 37 ∧ ko ≠ 38) (a b mm : Nat) (ha : a + mm ≤ nx) (hb : b + mm ≤ no) (hnar : (sl (bt σ kx) a mm).map (vp_nar .byte) = sl (bt σ kx) a mm) : nOk G B l ad N yX12_move cX12_move 6 none 0 0 0 [.ref (ad kx), .int (nI a), .ref (ad ko), .int (nI b), .int (nI mm)] σ (fun r σ' => r = none ∧ RC G ad θ x sh nn P H K σ' ∧ (∀ k, ¬ (k = ko) → σ' k = σ k) ∧ bt σ' ko = wr (bt σ ko) b (sl (bt σ kx) a mm)) := by
  refine nOk.weak (c_move I (hN kx (rLn_74 (by omega))) (hN ko (rLn_74 (by omega))) hne (hC.s.b kx nx hkx hx0) (hC.s.b ko no hko ho0) a b mm ha hb (by have := rLn_31 (k := kx) (by omega); omega) (by have := rLn_31 (k := ko) (by omega); omega)) ?_
  rintro r σ' ⟨h1, rfl⟩
  have hk : ∀ k, ¬ (k = ko) → va_up σ ko (eB G no (mvF (bt σ kx) a b mm (bt σ ko))) k = σ k := fun k hk => by simp [va_up, hk]
  refine ⟨h1, hC.keep (hC.s.up hko ho0 _) (hk 28 (by omega)) (hk 37 (by omega)) (hk 38 (by omega)), hk, ?_⟩
  have : va_up σ ko (eB G no (mvF (bt σ kx) a b mm (bt σ ko))) ko = eB G no (mvF (bt σ kx) a b mm (bt σ ko)) := by simp [va_up]
  rw [bt_B this, mvF_wr, hnar]
end R2b
end
section
theorem eX12_pseudo_0 : vD cX12_pseudo 0 (.aload_n 0) 1 1 := ⟨by decide +kernel, rfl⟩
theorem eX12_pseudo_1 : vD cX12_pseudo 1 (.aload_n 0) 1 2 := ⟨by decide +kernel, rfl⟩
theorem eX12_pseudo_2 : vD cX12_pseudo 2 (.getfield 111) 3 5 := ⟨by decide +kernel, rfl⟩
theorem eX12_pseudo_5 : vD cX12_pseudo 5 (.iconst 0) 1 6 := ⟨by decide +kernel, rfl⟩
theorem eX12_pseudo_6 : vD cX12_pseudo 6 (.aload_n 0) 1 7 := ⟨by decide +kernel, rfl⟩
theorem eX12_pseudo_7 : vD cX12_pseudo 7 (.getfield 243) 3 10 := ⟨by decide +kernel, rfl⟩
theorem eX12_pseudo_10 : vD cX12_pseudo 10 (.aload_n 1) 1 11 := ⟨by decide +kernel, rfl⟩
theorem eX12_pseudo_11 : vD cX12_pseudo 11 (.iload_n 2) 1 12 := ⟨by decide +kernel, rfl⟩
theorem eX12_pseudo_12 : vD cX12_pseudo 12 (.invokevirtual 268) 3 15 := ⟨by decide +kernel, rfl⟩
theorem eX12_pseudo_15 : vD cX12_pseudo 15 .return_ 1 16 := ⟨by decide +kernel, rfl⟩
theorem eX12_chain_0 : vD cX12_chain 0 (.iload_n 3) 1 1 := ⟨by decide +kernel, rfl⟩
theorem eX12_chain_1 : vD cX12_chain 1 (.istore 7) 2 3 := ⟨by decide +kernel, rfl⟩
theorem eX12_chain_3 : vD cX12_chain 3 (.iload 7) 2 5 := ⟨by decide +kernel, rfl⟩
theorem eX12_chain_5 : vD cX12_chain 5 (.iload_n 3) 1 6 := ⟨by decide +kernel, rfl⟩
theorem eX12_chain_6 : vD cX12_chain 6 (.iload 4) 2 8 := ⟨by decide +kernel, rfl⟩
theorem eX12_chain_8 : vD cX12_chain 8 .iadd 1 9 := ⟨by decide +kernel, rfl⟩
theorem eX12_chain_9 : vD cX12_chain 9 (.if_icmp .ge 34) 3 12 := ⟨by decide +kernel, rfl⟩
theorem eX12_chain_12 : vD cX12_chain 12 (.aload_n 0) 1 13 := ⟨by decide +kernel, rfl⟩
theorem eX12_chain_13 : vD cX12_chain 13 (.iconst 0) 1 14 := ⟨by decide +kernel, rfl⟩
theorem eX12_chain_14 : vD cX12_chain 14 (.iload_n 1) 1 15 := ⟨by decide +kernel, rfl⟩
theorem eX12_chain_15 : vD cX12_chain 15 (.iload_n 2) 1 16 := ⟨by decide +kernel, rfl⟩
theorem eX12_chain_16 : vD cX12_chain 16 (.iload 7) 2 18 := ⟨by decide +kernel, rfl⟩
theorem eX12_chain_18 : vD cX12_chain 18 (.invokevirtual 272) 3 21 := ⟨by decide +kernel, rfl⟩
theorem eX12_chain_21 : vD cX12_chain 21 (.aload_n 0) 1 22 := ⟨by decide +kernel, rfl⟩
theorem eX12_chain_22 : vD cX12_chain 22 (.aload 5) 2 24 := ⟨by decide +kernel, rfl⟩
theorem eX12_chain_24 : vD cX12_chain 24 (.iload 6) 2 26 := ⟨by decide +kernel, rfl⟩
theorem eX12_chain_26 : vD cX12_chain 26 (.aload_n 0) 1 27 := ⟨by decide +kernel, rfl⟩
theorem eX12_chain_27 : vD cX12_chain 27 (.getfield 243) 3 30 := ⟨by decide +kernel, rfl⟩
theorem eX12_chain_30 : vD cX12_chain 30 (.aload 5) 2 32 := ⟨by decide +kernel, rfl⟩
theorem eX12_chain_32 : vD cX12_chain 32 (.iload 6) 2 34 := ⟨by decide +kernel, rfl⟩
theorem eX12_chain_34 : vD cX12_chain 34 (.invokevirtual 268) 3 37 := ⟨by decide +kernel, rfl⟩
theorem eX12_chain_37 : vD cX12_chain 37 (.iinc 7 1) 3 40 := ⟨by decide +kernel, rfl⟩
theorem eX12_chain_40 : vD cX12_chain 40 (.goto (-37)) 3 43 := ⟨by decide +kernel, rfl⟩
theorem eX12_chain_43 : vD cX12_chain 43 .return_ 1 44 := ⟨by decide +kernel, rfl⟩
theorem eX12_leaf_0 : vD cX12_leaf 0 (.iconst 0) 1 1 := ⟨by decide +kernel, rfl⟩
theorem eX12_leaf_1 : vD cX12_leaf 1 (.istore 4) 2 3 := ⟨by decide +kernel, rfl⟩
theorem eX12_leaf_3 : vD cX12_leaf 3 (.iload 4) 2 5 := ⟨by decide +kernel, rfl⟩
theorem eX12_leaf_5 : vD cX12_leaf 5 (.aload_n 0) 1 6 := ⟨by decide +kernel, rfl⟩
theorem eX12_leaf_6 : vD cX12_leaf 6 (.getfield 261) 3 9 := ⟨by decide +kernel, rfl⟩
theorem eX12_leaf_9 : vD cX12_leaf 9 (.if_icmp .ge 54) 3 12 := ⟨by decide +kernel, rfl⟩
theorem eX12_leaf_12 : vD cX12_leaf 12 (.aload_n 0) 1 13 := ⟨by decide +kernel, rfl⟩
theorem eX12_leaf_13 : vD cX12_leaf 13 (.iconst 5) 1 14 := ⟨by decide +kernel, rfl⟩
theorem eX12_leaf_14 : vD cX12_leaf 14 (.iload_n 1) 1 15 := ⟨by decide +kernel, rfl⟩
theorem eX12_leaf_15 : vD cX12_leaf 15 (.iload 4) 2 17 := ⟨by decide +kernel, rfl⟩
theorem eX12_leaf_17 : vD cX12_leaf 17 (.iconst 0) 1 18 := ⟨by decide +kernel, rfl⟩
theorem eX12_leaf_18 : vD cX12_leaf 18 (.invokevirtual 272) 3 21 := ⟨by decide +kernel, rfl⟩
theorem eX12_leaf_21 : vD cX12_leaf 21 (.aload_n 0) 1 22 := ⟨by decide +kernel, rfl⟩
theorem eX12_leaf_22 : vD cX12_leaf 22 (.aload_n 0) 1 23 := ⟨by decide +kernel, rfl⟩
theorem eX12_leaf_23 : vD cX12_leaf 23 (.getfield 87) 3 26 := ⟨by decide +kernel, rfl⟩
theorem eX12_leaf_26 : vD cX12_leaf 26 (.iload 4) 2 28 := ⟨by decide +kernel, rfl⟩
theorem eX12_leaf_28 : vD cX12_leaf 28 (.aload_n 0) 1 29 := ⟨by decide +kernel, rfl⟩
theorem eX12_leaf_29 : vD cX12_leaf 29 (.getfield 243) 3 32 := ⟨by decide +kernel, rfl⟩
theorem eX12_leaf_32 : vD cX12_leaf 32 .imul 1 33 := ⟨by decide +kernel, rfl⟩
theorem eX12_leaf_33 : vD cX12_leaf 33 (.invokevirtual 276) 3 36 := ⟨by decide +kernel, rfl⟩
theorem eX12_leaf_36 : vD cX12_leaf 36 (.aload_n 0) 1 37 := ⟨by decide +kernel, rfl⟩
theorem eX12_leaf_37 : vD cX12_leaf 37 (.iload_n 1) 1 38 := ⟨by decide +kernel, rfl⟩
theorem eX12_leaf_38 : vD cX12_leaf 38 (.iload 4) 2 40 := ⟨by decide +kernel, rfl⟩
theorem eX12_leaf_40 : vD cX12_leaf 40 (.iconst 0) 1 41 := ⟨by decide +kernel, rfl⟩
theorem eX12_leaf_41 : vD cX12_leaf 41 (.bipush 15) 2 43 := ⟨by decide +kernel, rfl⟩
theorem eX12_leaf_43 : vD cX12_leaf 43 (.aload_n 0) 1 44 := ⟨by decide +kernel, rfl⟩
theorem eX12_leaf_44 : vD cX12_leaf 44 (.getfield 87) 3 47 := ⟨by decide +kernel, rfl⟩
theorem eX12_leaf_47 : vD cX12_leaf 47 (.iload 4) 2 49 := ⟨by decide +kernel, rfl⟩
theorem eX12_leaf_49 : vD cX12_leaf 49 (.aload_n 0) 1 50 := ⟨by decide +kernel, rfl⟩
theorem eX12_leaf_50 : vD cX12_leaf 50 (.getfield 243) 3 53 := ⟨by decide +kernel, rfl⟩
theorem eX12_leaf_53 : vD cX12_leaf 53 .imul 1 54 := ⟨by decide +kernel, rfl⟩
theorem eX12_leaf_54 : vD cX12_leaf 54 (.invokevirtual 280) 3 57 := ⟨by decide +kernel, rfl⟩
theorem eX12_leaf_57 : vD cX12_leaf 57 (.iinc 4 1) 3 60 := ⟨by decide +kernel, rfl⟩
theorem eX12_leaf_60 : vD cX12_leaf 60 (.goto (-57)) 3 63 := ⟨by decide +kernel, rfl⟩
theorem eX12_leaf_63 : vD cX12_leaf 63 (.aload_n 0) 1 64 := ⟨by decide +kernel, rfl⟩
theorem eX12_leaf_64 : vD cX12_leaf 64 (.iconst 1) 1 65 := ⟨by decide +kernel, rfl⟩
theorem eX12_leaf_65 : vD cX12_leaf 65 (.iload_n 1) 1 66 := ⟨by decide +kernel, rfl⟩
theorem eX12_leaf_66 : vD cX12_leaf 66 (.iconst 0) 1 67 := ⟨by decide +kernel, rfl⟩
theorem eX12_leaf_67 : vD cX12_leaf 67 (.iconst 0) 1 68 := ⟨by decide +kernel, rfl⟩
theorem eX12_leaf_68 : vD cX12_leaf 68 (.invokevirtual 272) 3 71 := ⟨by decide +kernel, rfl⟩
theorem eX12_leaf_71 : vD cX12_leaf 71 (.aload_n 0) 1 72 := ⟨by decide +kernel, rfl⟩
theorem eX12_leaf_72 : vD cX12_leaf 72 (.aload_n 0) 1 73 := ⟨by decide +kernel, rfl⟩
theorem eX12_leaf_73 : vD cX12_leaf 73 (.getfield 87) 3 76 := ⟨by decide +kernel, rfl⟩
theorem eX12_leaf_76 : vD cX12_leaf 76 (.iconst 0) 1 77 := ⟨by decide +kernel, rfl⟩
theorem eX12_leaf_77 : vD cX12_leaf 77 (.aload_n 0) 1 78 := ⟨by decide +kernel, rfl⟩
theorem eX12_leaf_78 : vD cX12_leaf 78 (.getfield 261) 3 81 := ⟨by decide +kernel, rfl⟩
theorem eX12_leaf_81 : vD cX12_leaf 81 (.aload_n 0) 1 82 := ⟨by decide +kernel, rfl⟩
theorem eX12_leaf_82 : vD cX12_leaf 82 (.getfield 243) 3 85 := ⟨by decide +kernel, rfl⟩
theorem eX12_leaf_85 : vD cX12_leaf 85 .imul 1 86 := ⟨by decide +kernel, rfl⟩
theorem eX12_leaf_86 : vD cX12_leaf 86 (.aload_n 2) 1 87 := ⟨by decide +kernel, rfl⟩
theorem eX12_leaf_87 : vD cX12_leaf 87 (.iload_n 3) 1 88 := ⟨by decide +kernel, rfl⟩
theorem eX12_leaf_88 : vD cX12_leaf 88 (.invokevirtual 268) 3 91 := ⟨by decide +kernel, rfl⟩
theorem eX12_leaf_91 : vD cX12_leaf 91 .return_ 1 92 := ⟨by decide +kernel, rfl⟩
theorem eX12_node_0 : vD cX12_node 0 (.iload_n 1) 1 1 := ⟨by decide +kernel, rfl⟩
theorem eX12_node_1 : vD cX12_node 1 (.ifCond .ne 12) 3 4 := ⟨by decide +kernel, rfl⟩
theorem eX12_node_4 : vD cX12_node 4 (.aload_n 0) 1 5 := ⟨by decide +kernel, rfl⟩
theorem eX12_node_5 : vD cX12_node 5 (.iload_n 2) 1 6 := ⟨by decide +kernel, rfl⟩
theorem eX12_node_6 : vD cX12_node 6 (.aload_n 3) 1 7 := ⟨by decide +kernel, rfl⟩
theorem eX12_node_7 : vD cX12_node 7 (.iload 4) 2 9 := ⟨by decide +kernel, rfl⟩
theorem eX12_node_9 : vD cX12_node 9 (.invokevirtual 284) 3 12 := ⟨by decide +kernel, rfl⟩
theorem eX12_node_12 : vD cX12_node 12 .return_ 1 13 := ⟨by decide +kernel, rfl⟩
theorem eX12_node_13 : vD cX12_node 13 (.aload_n 0) 1 14 := ⟨by decide +kernel, rfl⟩
theorem eX12_node_14 : vD cX12_node 14 (.getfield 84) 3 17 := ⟨by decide +kernel, rfl⟩
theorem eX12_node_17 : vD cX12_node 17 (.iload_n 1) 1 18 := ⟨by decide +kernel, rfl⟩
theorem eX12_node_18 : vD cX12_node 18 .aaload 1 19 := ⟨by decide +kernel, rfl⟩
theorem eX12_node_19 : vD cX12_node 19 (.astore 5) 2 21 := ⟨by decide +kernel, rfl⟩
theorem eX12_node_21 : vD cX12_node 21 (.aload_n 0) 1 22 := ⟨by decide +kernel, rfl⟩
theorem eX12_node_22 : vD cX12_node 22 (.iload_n 1) 1 23 := ⟨by decide +kernel, rfl⟩
theorem eX12_node_23 : vD cX12_node 23 (.iconst 1) 1 24 := ⟨by decide +kernel, rfl⟩
theorem eX12_node_24 : vD cX12_node 24 .isub 1 25 := ⟨by decide +kernel, rfl⟩
theorem eX12_node_25 : vD cX12_node 25 (.iconst 2) 1 26 := ⟨by decide +kernel, rfl⟩
theorem eX12_node_26 : vD cX12_node 26 (.iload_n 2) 1 27 := ⟨by decide +kernel, rfl⟩
theorem eX12_node_27 : vD cX12_node 27 .imul 1 28 := ⟨by decide +kernel, rfl⟩
theorem eX12_node_28 : vD cX12_node 28 (.aload 5) 2 30 := ⟨by decide +kernel, rfl⟩
theorem eX12_node_30 : vD cX12_node 30 (.iconst 0) 1 31 := ⟨by decide +kernel, rfl⟩
theorem eX12_node_31 : vD cX12_node 31 (.invokevirtual 288) 3 34 := ⟨by decide +kernel, rfl⟩
theorem eX12_node_34 : vD cX12_node 34 (.aload_n 0) 1 35 := ⟨by decide +kernel, rfl⟩
theorem eX12_node_35 : vD cX12_node 35 (.iload_n 1) 1 36 := ⟨by decide +kernel, rfl⟩
theorem eX12_node_36 : vD cX12_node 36 (.iconst 1) 1 37 := ⟨by decide +kernel, rfl⟩
theorem eX12_node_37 : vD cX12_node 37 .isub 1 38 := ⟨by decide +kernel, rfl⟩
theorem eX12_node_38 : vD cX12_node 38 (.iconst 2) 1 39 := ⟨by decide +kernel, rfl⟩
theorem eX12_node_39 : vD cX12_node 39 (.iload_n 2) 1 40 := ⟨by decide +kernel, rfl⟩
theorem eX12_node_40 : vD cX12_node 40 .imul 1 41 := ⟨by decide +kernel, rfl⟩
theorem eX12_node_41 : vD cX12_node 41 (.iconst 1) 1 42 := ⟨by decide +kernel, rfl⟩
theorem eX12_node_42 : vD cX12_node 42 .iadd 1 43 := ⟨by decide +kernel, rfl⟩
theorem eX12_node_43 : vD cX12_node 43 (.aload 5) 2 45 := ⟨by decide +kernel, rfl⟩
theorem eX12_node_45 : vD cX12_node 45 (.aload_n 0) 1 46 := ⟨by decide +kernel, rfl⟩
theorem eX12_node_46 : vD cX12_node 46 (.getfield 243) 3 49 := ⟨by decide +kernel, rfl⟩
theorem eX12_node_49 : vD cX12_node 49 (.invokevirtual 288) 3 52 := ⟨by decide +kernel, rfl⟩
theorem eX12_node_52 : vD cX12_node 52 (.aload_n 0) 1 53 := ⟨by decide +kernel, rfl⟩
theorem eX12_node_53 : vD cX12_node 53 (.iconst 2) 1 54 := ⟨by decide +kernel, rfl⟩
theorem eX12_node_54 : vD cX12_node 54 (.iconst 0) 1 55 := ⟨by decide +kernel, rfl⟩
theorem eX12_node_55 : vD cX12_node 55 (.iload_n 1) 1 56 := ⟨by decide +kernel, rfl⟩
theorem eX12_node_56 : vD cX12_node 56 (.iload_n 2) 1 57 := ⟨by decide +kernel, rfl⟩
theorem eX12_node_57 : vD cX12_node 57 (.invokevirtual 272) 3 60 := ⟨by decide +kernel, rfl⟩
theorem eX12_node_60 : vD cX12_node 60 (.aload_n 0) 1 61 := ⟨by decide +kernel, rfl⟩
theorem eX12_node_61 : vD cX12_node 61 (.aload 5) 2 63 := ⟨by decide +kernel, rfl⟩
theorem eX12_node_63 : vD cX12_node 63 (.iconst 0) 1 64 := ⟨by decide +kernel, rfl⟩
theorem eX12_node_64 : vD cX12_node 64 (.iconst 2) 1 65 := ⟨by decide +kernel, rfl⟩
theorem eX12_node_65 : vD cX12_node 65 (.aload_n 0) 1 66 := ⟨by decide +kernel, rfl⟩
theorem eX12_node_66 : vD cX12_node 66 (.getfield 243) 3 69 := ⟨by decide +kernel, rfl⟩
theorem eX12_node_69 : vD cX12_node 69 .imul 1 70 := ⟨by decide +kernel, rfl⟩
theorem eX12_node_70 : vD cX12_node 70 (.aload_n 3) 1 71 := ⟨by decide +kernel, rfl⟩
theorem eX12_node_71 : vD cX12_node 71 (.iload 4) 2 73 := ⟨by decide +kernel, rfl⟩
theorem eX12_node_73 : vD cX12_node 73 (.invokevirtual 268) 3 76 := ⟨by decide +kernel, rfl⟩
theorem eX12_node_76 : vD cX12_node 76 .return_ 1 77 := ⟨by decide +kernel, rfl⟩

section M20
variable {G : vG} {B : Nat} {l : Launch} {ad : Nat → Nat} {N : Nat} {θ : tT} {x : Nat → Int32} {σ : nS} {sh : Bool} {nn : Nat} {P H K : List Int32}
set_option maxRecDepth 100000 in
set_option maxHeartbeats 4000000 in
theorem rc_pseudo (I : nI1 ad N) (hN : ∀ k, k < 74 → k < N) (hC : RC G ad θ x sh nn P H K σ) {ty px py pz : Nat} (hY : sl (bt σ 28) 16 16 = tyL (nI ty) (nI px) (nI py) (nI pz)) {ko no : Nat} (hko : rLn ko = no) (ho0 : 0 < no) (hfr : ko ≠ 28 ∧ ko ≠ 37 ∧ ko ≠ 38) (b : Nat) (hb : b + nn ≤ no) : nOk G B l ad N yX12_pseudo cX12_pseudo 3 none 6 0 0 [.ref (ad 49), .ref (ad ko), .int (nI b)] σ (fun r σ' => r = none ∧ RC G ad θ x sh nn P H K σ' ∧ (∀ k, ¬ (13 ≤ k ∧ k ≤ 17 ∨ k = 49 ∨ k = ko) → σ' k = σ k) ∧ bt σ' ko = wr (bt σ ko) b (fF θ sh nn P H ty px py pz K)) := by
  refine vOk.of (by decide +kernel) (Nat.le_of_ble_eq_true rfl) ?_
  intro p e s m args below meth c C
  refine v_eq (lv' := [(0, .ref (ad 49)), (1, .ref (ad ko)), (2, .int (nI b))]) rfl rfl rfl ?_
  have hn := hC.qnn
  refine v_aload_n C eX12_pseudo_0 rfl 0 rfl ?_
  refine v_aload_n C eX12_pseudo_1 rfl 0 rfl ?_
  refine n_get C I fX12_111_X12 eX12_pseudo_2 (hN 49 (by decide)) hC.s.obj rfl ?_
  refine v_iconst (v := (0 : Int32)) C eX12_pseudo_5 (by decide) ?_
  refine v_aload_n C eX12_pseudo_6 rfl 0 rfl ?_
  refine n_get C I fX12_243_X12 eX12_pseudo_7 (hN 49 (by decide)) hC.s.obj rfl ?_
  refine v_aload_n C eX12_pseudo_10 rfl 1 rfl ?_
  refine v_iload_n C eX12_pseudo_11 rfl 2 rfl ?_
  refine n_callV (As := [.ref (ad 38), .int (nI 0), .int (nI nn), .ref (ad ko), .int (nI b)]) (rest := []) C I mX12_268 (rc_hashed I hN hC hY (kx := 38) (nx := 32) rfl (by decide) hko ho0 hfr 0 nn b (by omega) hb) (hN 49 (by decide)) hC.s.obj rfl (by decide) (by decide) ⟨by decide, by decide⟩ rfl (vi_c (rfl : nI b = nI b) (vi_k (vi_c hC.n (vi_c (rfl : (0 : Int32) = nI 0) (vi_k rfl))))) (Nat.le_of_ble_eq_true rfl) eX12_pseudo_12 (fun r σ1 hp => ?_)
  obtain ⟨rfl, hC1, hk1, hv1⟩ := hp
  refine n_vret C rfl eX12_pseudo_15 ⟨rfl, hC1, hk1, ?_⟩
  rw [hv1, hC.qK]

def chL (F : fT) (px py i s : Nat) (d : List Int32) : List Int32 := itN (fun j d => F 0 px py (i + j) d) s d
theorem chL_len {px py i : Nat} {d : List Int32} (hd : d.length = nn) : ∀ s, (chL (fF θ sh nn P H) px py i s d).length = nn
  | 0 => hd
  | _ + 1 => fF_len _ _ _ _ _
set_option maxRecDepth 100000 in
set_option maxHeartbeats 4000000 in
theorem rc_chain (I : nI1 ad N) (hN : ∀ k, k < 74 → k < N) (hC : RC G ad θ x sh nn P H K σ) {ko no : Nat} (hko : rLn ko = no) (ho0 : 0 < no) (hfr : ko ≠ 28 ∧ ko ≠ 37 ∧ ko ≠ 38) (px py i cs b : Nat) (hi : i + cs < 2 ^ 31) (hb : b + nn ≤ no) : nOk G B l ad N yX12_chain cX12_chain 8 none 6 0 0 [.ref (ad 49), .int (nI px), .int (nI py), .int (nI i), .int (nI cs), .ref (ad ko), .int (nI b)] σ (fun r σ' => r = none ∧ RC G ad θ x sh nn P H K σ' ∧ (∀ k, ¬ (13 ≤ k ∧ k ≤ 17 ∨ k = 49 ∨ k = 28 ∨ k = ko) → σ' k = σ k) ∧ bt σ' ko = wr (bt σ ko) b (chL (fF θ sh nn P H) px py i cs (sl (bt σ ko) b nn))) := by
  refine vOk.of (by decide +kernel) (Nat.le_of_ble_eq_true rfl) ?_
  intro p e s m args below meth c C
  refine v_eq (lv' := [(0, .ref (ad 49)), (1, .int (nI px)), (2, .int (nI py)), (3, .int (nI i)), (4, .int (nI cs)), (5, .ref (ad ko)), (6, .int (nI b))]) rfl rfl rfl ?_
  have hn := hC.qnn
  refine v_iload_n C eX12_chain_0 rfl 3 rfl ?_
  refine v_istore (lv' := [(0, .ref (ad 49)), (1, .int (nI px)), (2, .int (nI py)), (3, .int (nI i)), (4, .int (nI cs)), (5, .ref (ad ko)), (6, .int (nI b)), (7, .int (nI i))]) C eX12_chain_1 (by decide) [1, 2, 3, 4, 5, 6, 7, 0] rfl ?_
  refine v_forP (fun j τ => RC G ad θ x sh nn P H K τ ∧ (∀ k, ¬ (13 ≤ k ∧ k ≤ 17 ∨ k = 49 ∨ k = 28 ∨ k = ko) → τ k = σ k) ∧ bt τ ko = wr (bt σ ko) b (chL (fF θ sh nn P H) px py i j (sl (bt σ ko) b nn))) (fun j => [(0, .ref (ad 49)), (1, .int (nI px)), (2, .int (nI py)), (3, .int (nI i)), (4, .int (nI cs)), (5, .ref (ad ko)), (6, .int (nI b)), (7, .int (nI (i + j)))]) cs ?_ ?_ _ ⟨hC, fun k _ => rfl, wr_sl.symm⟩
  · intro τ hI
    obtain ⟨hC1, hk1, hv1⟩ := hI
    refine v_iload C eX12_chain_3 7 rfl ?_
    refine v_iload_n C eX12_chain_5 rfl 3 rfl ?_
    refine v_iload C eX12_chain_6 4 rfl ?_
    refine v_iadd C eX12_chain_8 ?_
    refine v_icmp_ge (tgt := 43) C eX12_chain_9 (by decide) (fun _ => ?_) (fun h => absurd (ix_le (a := i + cs) (b := i + cs) (ix_add (a := i) (b := cs) (rfl : nI i = nI i) (rfl : nI cs = nI cs)) (rfl : nI (i + cs) = nI (i + cs)) (by omega) (by omega) (by omega)) h)
    exact n_vret C rfl eX12_chain_43 ⟨rfl, hC1, hk1, hv1⟩
  · intro j hj ih τ hI
    obtain ⟨hC1, hk1, hv1⟩ := hI
    refine v_iload C eX12_chain_3 7 rfl ?_
    refine v_iload_n C eX12_chain_5 rfl 3 rfl ?_
    refine v_iload C eX12_chain_6 4 rfl ?_
    refine v_iadd C eX12_chain_8 ?_
    refine v_icmp_ge (tgt := 43) C eX12_chain_9 (by decide) (fun h => absurd h (ix_nle (a := i + cs) (b := i + j) (ix_add (a := i) (b := cs) (rfl : nI i = nI i) (rfl : nI cs = nI cs)) (rfl : nI (i + j) = nI (i + j)) (by omega) (by omega) (by omega))) (fun _ => ?_)
    refine v_aload_n C eX12_chain_12 rfl 0 rfl ?_
    refine v_iconst (v := (0 : Int32)) C eX12_chain_13 (by decide) ?_
    refine v_iload_n C eX12_chain_14 rfl 1 rfl ?_
    refine v_iload_n C eX12_chain_15 rfl 2 rfl ?_
    refine v_iload C eX12_chain_16 7 rfl ?_
    refine n_callV (As := [.int (nI 0), .int (nI px), .int (nI py), .int (nI (i + j))]) (rest := []) C I mX12_272 (rc_type I hN hC1 0 px py (i + j)) (hN 49 (by decide)) hC1.s.obj rfl (by decide) (by decide) ⟨by decide, by decide⟩ rfl (vi_c (rfl : nI (i + j) = nI (i + j)) (vi_c (rfl : nI py = nI py) (vi_c (rfl : nI px = nI px) (vi_c (rfl : (0 : Int32) = nI 0) rfl)))) (Nat.le_of_ble_eq_true rfl) eX12_chain_18 (fun r σ2 hp => ?_)
    obtain ⟨rfl, hC2, hk2, hY2⟩ := hp
    refine v_aload_n C eX12_chain_21 rfl 0 rfl ?_
    refine v_aload C eX12_chain_22 5 rfl ?_
    refine v_iload C eX12_chain_24 6 rfl ?_
    refine v_aload_n C eX12_chain_26 rfl 0 rfl ?_
    refine n_get C I fX12_243_X12 eX12_chain_27 (hN 49 (by decide)) hC2.s.obj rfl ?_
    refine v_aload C eX12_chain_30 5 rfl ?_
    refine v_iload C eX12_chain_32 6 rfl ?_
    refine n_callV (As := [.ref (ad ko), .int (nI b), .int (nI nn), .ref (ad ko), .int (nI b)]) (rest := []) C I mX12_268 (rc_hashed I hN hC2 hY2 hko ho0 hko ho0 hfr b nn b hb hb) (hN 49 (by decide)) hC2.s.obj rfl (by decide) (by decide) ⟨by decide, by decide⟩ rfl (vi_c (rfl : nI b = nI b) (vi_k (vi_c hC2.n (vi_c (rfl : nI b = nI b) (vi_k rfl))))) (Nat.le_of_ble_eq_true rfl) eX12_chain_34 (fun r σ3 hp => ?_)
    obtain ⟨rfl, hC3, hk3, hv3⟩ := hp
    refine v_iinc (lv' := [(0, .ref (ad 49)), (1, .int (nI px)), (2, .int (nI py)), (3, .int (nI i)), (4, .int (nI cs)), (5, .ref (ad ko)), (6, .int (nI b)), (7, .int (nI (i + j + 1)))]) C eX12_chain_37 7 rfl (ix_inc _) (by decide) [1, 2, 3, 4, 5, 6, 7, 0] rfl ?_
    refine v_goto (tgt := 3) C eX12_chain_40 (by decide) ?_
    refine ih σ3 ⟨hC3, fun k hk => (hk3 k (by omega)).trans ((hk2 k (by omega)).trans (hk1 k hk)), ?_⟩
    rw [hv3, bt_same (hk2 ko hfr.1), hv1, sl_wr' (chL_len sl_len j), wr_wr ((chL_len sl_len j).trans (fF_len _ _ _ _ _).symm)]
    rfl

/-- a leaf: the ends of all chains -/
def endL (F : fT) (K : List Int32) (i j : Nat) : List Int32 := chL F i j 0 15 (F 5 i j 0 K)
def leafL (F : fT) (K : List Int32) (c i : Nat) : List Int32 := F 1 i 0 0 (cat (endL F K i) c)
theorem endL_len {K : List Int32} {i : Nat} (j : Nat) : (endL (fF θ sh nn P H) K i j).length = nn := chL_len (fF_len _ _ _ _ _) 15
set_option maxRecDepth 100000 in
set_option maxHeartbeats 4000000 in
theorem rc_leaf (I : nI1 ad N) (hN : ∀ k, k < 74 → k < N) (hC : RC G ad θ x sh nn P H K σ) (h47 : x 47 = nI (2 * nn + 3)) {ko no : Nat} (hko : rLn ko = no) (ho0 : 0 < no) (hfr : ko ≠ 28 ∧ ko ≠ 37 ∧ ko ≠ 38) (hk30 : ko ≠ 30) (i b : Nat) (hb : b + nn ≤ no) : nOk G B l ad N yX12_leaf cX12_leaf 5 none 7 0 0 [.ref (ad 49), .int (nI i), .ref (ad ko), .int (nI b)] σ (fun r σ' => r = none ∧ RC G ad θ x sh nn P H K σ' ∧ (∀ k, ¬ (13 ≤ k ∧ k ≤ 17 ∨ k = 49 ∨ k = 28 ∨ k = 30 ∨ k = ko) → σ' k = σ k) ∧ bt σ' ko = wr (bt σ ko) b (leafL (fF θ sh nn P H) K (2 * nn + 3) i)) := by
  refine vOk.of (by decide +kernel) (Nat.le_of_ble_eq_true rfl) ?_
  intro p e s m args below meth c C
  refine v_eq (lv' := [(0, .ref (ad 49)), (1, .int (nI i)), (2, .ref (ad ko)), (3, .int (nI b))]) rfl rfl rfl ?_
  have hn := hC.qnn
  refine v_iconst (v := nI 0) C eX12_leaf_0 (by decide) ?_
  refine v_istore (lv' := [(0, .ref (ad 49)), (1, .int (nI i)), (2, .ref (ad ko)), (3, .int (nI b)), (4, .int (nI 0))]) C eX12_leaf_1 (by decide) [1, 2, 3, 4, 0] rfl ?_
  refine v_forP (fun j τ => RC G ad θ x sh nn P H K τ ∧ (∀ k, ¬ (13 ≤ k ∧ k ≤ 17 ∨ k = 49 ∨ k = 28 ∨ k = 30) → τ k = σ k) ∧ bt τ 30 = wr (bt σ 30) 0 (cat (endL (fF θ sh nn P H) K i) j)) (fun j => [(0, .ref (ad 49)), (1, .int (nI i)), (2, .ref (ad ko)), (3, .int (nI b)), (4, .int (nI j))]) (2 * nn + 3) ?_ ?_ _ ⟨hC, fun k _ => rfl, wr_nil.symm⟩
  · intro τ hI
    obtain ⟨hC1, hk1, hv1⟩ := hI
    refine v_iload C eX12_leaf_3 4 rfl ?_
    refine v_aload_n C eX12_leaf_5 rfl 0 rfl ?_
    refine n_get C I fX12_261_X12 eX12_leaf_6 (hN 49 (by decide)) hC1.s.obj rfl ?_
    refine v_icmp_ge (tgt := 63) C eX12_leaf_9 (by decide) (fun _ => ?_) (fun h => absurd (ix_le (a := 2 * nn + 3) (b := 2 * nn + 3) (hC1.s.i47.trans h47) (rfl : nI (2 * nn + 3) = nI (2 * nn + 3)) (by omega) (by omega) (by omega)) h)
    refine v_aload_n C eX12_leaf_63 rfl 0 rfl ?_
    refine v_iconst (v := (1 : Int32)) C eX12_leaf_64 (by decide) ?_
    refine v_iload_n C eX12_leaf_65 rfl 1 rfl ?_
    refine v_iconst (v := (0 : Int32)) C eX12_leaf_66 (by decide) ?_
    refine v_iconst (v := (0 : Int32)) C eX12_leaf_67 (by decide) ?_
    refine n_callV (As := [.int (nI 1), .int (nI i), .int (nI 0), .int (nI 0)]) (rest := []) C I mX12_272 (rc_type I hN hC1 1 i 0 0) (hN 49 (by decide)) hC1.s.obj rfl (by decide) (by decide) ⟨by decide, by decide⟩ rfl (vi_c (rfl : (0 : Int32) = nI 0) (vi_c (rfl : (0 : Int32) = nI 0) (vi_c (rfl : nI i = nI i) (vi_c (rfl : (1 : Int32) = nI 1) rfl)))) (Nat.le_of_ble_eq_true rfl) eX12_leaf_68 (fun r σ2 hp => ?_)
    obtain ⟨rfl, hC2, hk2, hY2⟩ := hp
    refine v_aload_n C eX12_leaf_71 rfl 0 rfl ?_
    refine v_aload_n C eX12_leaf_72 rfl 0 rfl ?_
    refine n_get C I fX12_87_X12 eX12_leaf_73 (hN 49 (by decide)) hC2.s.obj rfl ?_
    refine v_iconst (v := (0 : Int32)) C eX12_leaf_76 (by decide) ?_
    refine v_aload_n C eX12_leaf_77 rfl 0 rfl ?_
    refine n_get C I fX12_261_X12 eX12_leaf_78 (hN 49 (by decide)) hC2.s.obj rfl ?_
    refine v_aload_n C eX12_leaf_81 rfl 0 rfl ?_
    refine n_get C I fX12_243_X12 eX12_leaf_82 (hN 49 (by decide)) hC2.s.obj rfl ?_
    refine v_imul C eX12_leaf_85 ?_
    refine v_aload_n C eX12_leaf_86 rfl 2 rfl ?_
    refine v_iload_n C eX12_leaf_87 rfl 3 rfl ?_
    refine n_callV (As := [.ref (ad 30), .int (nI 0), .int (nI ((2 * nn + 3) * nn)), .ref (ad ko), .int (nI b)]) (rest := []) C I mX12_268 (rc_hashed I hN hC2 hY2 (kx := 30) (nx := 2144) rfl (by decide) hko ho0 hfr 0 ((2 * nn + 3) * nn) b (by rcases hn with h | h | h <;> subst h <;> decide) hb) (hN 49 (by decide)) hC2.s.obj rfl (by decide) (by decide) ⟨by decide, by decide⟩ rfl (vi_c (rfl : nI b = nI b) (vi_k (vi_c (ix_mul (a := 2 * nn + 3) (b := nn) (hC2.s.i47.trans h47) hC2.n) (vi_c (rfl : (0 : Int32) = nI 0) (vi_k rfl))))) (Nat.le_of_ble_eq_true rfl) eX12_leaf_88 (fun r σ3 hp => ?_)
    obtain ⟨rfl, hC3, hk3, hv3⟩ := hp
    refine n_vret C rfl eX12_leaf_91 ⟨rfl, hC3, fun k hk => (hk3 k (by omega)).trans ((hk2 k (by omega)).trans (hk1 k (by omega))), ?_⟩
    rw [hv3, bt_same (hk2 30 (by decide)), hv1, sl_wr' (cat_len endL_len _), bt_same (hk2 ko hfr.1), bt_same (hk1 ko (by have := rLn_h (k := ko) (by omega); omega))]
    rfl
  · intro j hj ih τ hI
    obtain ⟨hC1, hk1, hv1⟩ := hI
    refine v_iload C eX12_leaf_3 4 rfl ?_
    refine v_aload_n C eX12_leaf_5 rfl 0 rfl ?_
    refine n_get C I fX12_261_X12 eX12_leaf_6 (hN 49 (by decide)) hC1.s.obj rfl ?_
    refine v_icmp_ge (tgt := 63) C eX12_leaf_9 (by decide) (fun h => absurd h (ix_nle (a := 2 * nn + 3) (b := j) (hC1.s.i47.trans h47) (rfl : nI j = nI j) (by omega) (by omega) (by omega))) (fun _ => ?_)
    refine v_aload_n C eX12_leaf_12 rfl 0 rfl ?_
    refine v_iconst (v := (5 : Int32)) C eX12_leaf_13 (by decide) ?_
    refine v_iload_n C eX12_leaf_14 rfl 1 rfl ?_
    refine v_iload C eX12_leaf_15 4 rfl ?_
    refine v_iconst (v := (0 : Int32)) C eX12_leaf_17 (by decide) ?_
    have hjn : j * nn + nn ≤ 2144 := by rcases hn with h | h | h <;> subst h <;> omega
    refine n_callV (As := [.int (nI 5), .int (nI i), .int (nI j), .int (nI 0)]) (rest := []) C I mX12_272 (rc_type I hN hC1 5 i j 0) (hN 49 (by decide)) hC1.s.obj rfl (by decide) (by decide) ⟨by decide, by decide⟩ rfl (vi_c (rfl : (0 : Int32) = nI 0) (vi_c (rfl : nI j = nI j) (vi_c (rfl : nI i = nI i) (vi_c (rfl : (5 : Int32) = nI 5) rfl)))) (Nat.le_of_ble_eq_true rfl) eX12_leaf_18 (fun r σ2 hp => ?_)
    obtain ⟨rfl, hC2, hk2, hY2⟩ := hp
    refine v_aload_n C eX12_leaf_21 rfl 0 rfl ?_
    refine v_aload_n C eX12_leaf_22 rfl 0 rfl ?_
    refine n_get C I fX12_87_X12 eX12_leaf_23 (hN 49 (by decide)) hC2.s.obj rfl ?_
    refine v_iload C eX12_leaf_26 4 rfl ?_
    refine v_aload_n C eX12_leaf_28 rfl 0 rfl ?_
    refine n_get C I fX12_243_X12 eX12_leaf_29 (hN 49 (by decide)) hC2.s.obj rfl ?_
    refine v_imul C eX12_leaf_32 ?_
    refine n_callV (As := [.ref (ad 30), .int (nI (j * nn))]) (rest := []) C I mX12_276 (rc_pseudo I hN hC2 hY2 (ko := 30) (no := 2144) rfl (by decide) (by decide) (j * nn) hjn) (hN 49 (by decide)) hC2.s.obj rfl (by decide) (by decide) ⟨by decide, by decide⟩ rfl (vi_c (ix_mul (a := j) (b := nn) (rfl : nI j = nI j) hC2.n) (vi_k rfl)) (Nat.le_of_ble_eq_true rfl) eX12_leaf_33 (fun r σ3 hp => ?_)
    obtain ⟨rfl, hC3, hk3, hv3⟩ := hp
    refine v_aload_n C eX12_leaf_36 rfl 0 rfl ?_
    refine v_iload_n C eX12_leaf_37 rfl 1 rfl ?_
    refine v_iload C eX12_leaf_38 4 rfl ?_
    refine v_iconst (v := (0 : Int32)) C eX12_leaf_40 (by decide) ?_
    refine v_bipush (v := (15 : Int32)) C eX12_leaf_41 (by decide) ?_
    refine v_aload_n C eX12_leaf_43 rfl 0 rfl ?_
    refine n_get C I fX12_87_X12 eX12_leaf_44 (hN 49 (by decide)) hC3.s.obj rfl ?_
    refine v_iload C eX12_leaf_47 4 rfl ?_
    refine v_aload_n C eX12_leaf_49 rfl 0 rfl ?_
    refine n_get C I fX12_243_X12 eX12_leaf_50 (hN 49 (by decide)) hC3.s.obj rfl ?_
    refine v_imul C eX12_leaf_53 ?_
    refine n_callV (As := [.int (nI i), .int (nI j), .int (nI 0), .int (nI 15), .ref (ad 30), .int (nI (j * nn))]) (rest := []) C I mX12_280 (rc_chain I hN hC3 (ko := 30) (no := 2144) rfl (by decide) (by decide) i j 0 15 (j * nn) (by decide) hjn) (hN 49 (by decide)) hC3.s.obj rfl (by decide) (by decide) ⟨by decide, by decide⟩ rfl (vi_c (ix_mul (a := j) (b := nn) (rfl : nI j = nI j) hC3.n) (vi_k (vi_c (rfl : (15 : Int32) = nI 15) (vi_c (rfl : (0 : Int32) = nI 0) (vi_c (rfl : nI j = nI j) (vi_c (rfl : nI i = nI i) rfl)))))) (Nat.le_of_ble_eq_true rfl) eX12_leaf_54 (fun r σ4 hp => ?_)
    obtain ⟨rfl, hC4, hk4, hv4⟩ := hp
    refine v_iinc (lv' := [(0, .ref (ad 49)), (1, .int (nI i)), (2, .ref (ad ko)), (3, .int (nI b)), (4, .int (nI (j + 1)))]) C eX12_leaf_57 4 rfl (ix_inc _) (by decide) [1, 2, 3, 4, 0] rfl ?_
    refine v_goto (tgt := 3) C eX12_leaf_60 (by decide) ?_
    refine ih σ4 ⟨hC4, fun k hk => (hk4 k (by omega)).trans ((hk3 k (by omega)).trans ((hk2 k (by omega)).trans (hk1 k hk))), ?_⟩
    rw [hv4, hv3, sl_wr' (fF_len _ _ _ _ _), wr_wr ((fF_len _ _ _ _ _).trans (chL_len (fF_len _ _ _ _ _) 15).symm), bt_same (hk2 30 (by decide)), hv1, wr_app (by rw [cat_len endL_len]; omega)]
    rfl

def nodeL (F : fT) (K : List Int32) (c : Nat) : Nat → Nat → List Int32
  | 0, i => leafL F K c i
  | z + 1, i => F 2 0 (z + 1) i (nodeL F K c z (2 * i) ++ nodeL F K c z (2 * i + 1))
theorem nodeL_len {K : List Int32} {c : Nat} : ∀ z i, (nodeL (fF θ sh nn P H) K c z i).length = nn
  | 0, _ => fF_len _ _ _ _ _
  | _ + 1, _ => fF_len _ _ _ _ _
set_option maxRecDepth 100000 in
set_option maxHeartbeats 4000000 in
theorem rc_node0 (I : nI1 ad N) (hN : ∀ k, k < 74 → k < N) (hC : RC G ad θ x sh nn P H K σ) (h47 : x 47 = nI (2 * nn + 3)) {ko no : Nat} (hko : rLn ko = no) (ho0 : 0 < no) (hfr : ko ≠ 28 ∧ ko ≠ 37 ∧ ko ≠ 38) (hk30 : ko ≠ 30) (i b : Nat) (hb : b + nn ≤ no) : nOk G B l ad N yX12_node cX12_node 6 none 8 0 0 [.ref (ad 49), .int (nI 0), .int (nI i), .ref (ad ko), .int (nI b)] σ (fun r σ' => r = none ∧ RC G ad θ x sh nn P H K σ' ∧ (∀ k, ¬ (13 ≤ k ∧ k ≤ 17 ∨ k = 49 ∨ k = 28 ∨ k = 30 ∨ (58 < k ∧ k ≤ 58 + 0) ∨ k = ko) → σ' k = σ k) ∧ bt σ' ko = wr (bt σ ko) b (nodeL (fF θ sh nn P H) K (2 * nn + 3) 0 i)) := by
  refine vOk.of (by decide +kernel) (Nat.le_of_ble_eq_true rfl) ?_
  intro p e s m args below meth c C
  refine v_eq (lv' := [(0, .ref (ad 49)), (1, .int (nI 0)), (2, .int (nI i)), (3, .ref (ad ko)), (4, .int (nI b))]) rfl rfl rfl ?_
  refine v_iload_n C eX12_node_0 rfl 1 rfl ?_
  refine v_if_ne (tgt := 13) C eX12_node_1 (by decide) (fun h => absurd (ix_eq (a := 0) (b := 0) (rfl : nI 0 = nI 0) (rfl : (0 : Int32) = nI 0) (by omega) (by omega) (by omega)) h) (fun _ => ?_)
  refine v_aload_n C eX12_node_4 rfl 0 rfl ?_
  refine v_iload_n C eX12_node_5 rfl 2 rfl ?_
  refine v_aload_n C eX12_node_6 rfl 3 rfl ?_
  refine v_iload C eX12_node_7 4 rfl ?_
  refine n_callV (As := [.int (nI i), .ref (ad ko), .int (nI b)]) (rest := []) C I mX12_284 (rc_leaf I hN hC h47 hko ho0 hfr hk30 i b hb) (hN 49 (by decide)) hC.s.obj rfl (by decide) (by decide) ⟨by decide, by decide⟩ rfl (vi_c (rfl : nI b = nI b) (vi_k (vi_c (rfl : nI i = nI i) rfl))) (Nat.le_of_ble_eq_true rfl) eX12_node_9 (fun r σ1 hp => ?_)
  obtain ⟨rfl, hC1, hk1, hv1⟩ := hp
  exact n_vret C rfl eX12_node_12 ⟨rfl, hC1, fun k hk => hk1 k (by omega), hv1⟩

set_option maxRecDepth 100000 in
set_option maxHeartbeats 4000000 in
theorem rc_node1 (I : nI1 ad N) (hN : ∀ k, k < 74 → k < N) {z : Nat} (ih : ∀ {σ : nS}, RC G ad θ x sh nn P H K σ → x 47 = nI (2 * nn + 3) → ∀ {ko no : Nat}, rLn ko = no → 0 < no → (ko ≠ 28 ∧ ko ≠ 37 ∧ ko ≠ 38) → ko ≠ 30 → (ko < 58 ∨ 58 + z < ko) → ∀ (i b : Nat), (i + 1) * 2 ^ z ≤ 2 ^ 30 → b + nn ≤ no → nOk G B l ad N yX12_node cX12_node 6 none (8 + z) 0 0 [.ref (ad 49), .int (nI z), .int (nI i), .ref (ad ko), .int (nI b)] σ (fun r σ' => r = none ∧ RC G ad θ x sh nn P H K σ' ∧ (∀ k, ¬ (13 ≤ k ∧ k ≤ 17 ∨ k = 49 ∨ k = 28 ∨ k = 30 ∨ (58 < k ∧ k ≤ 58 + z) ∨ k = ko) → σ' k = σ k) ∧ bt σ' ko = wr (bt σ ko) b (nodeL (fF θ sh nn P H) K (2 * nn + 3) z i))) (hC : RC G ad θ x sh nn P H K σ) (h47 : x 47 = nI (2 * nn + 3)) {ko no : Nat} (hko : rLn ko = no) (ho0 : 0 < no) (hfr : ko ≠ 28 ∧ ko ≠ 37 ∧ ko ≠ 38) (hk30 : ko ≠ 30) (hkp : ko < 58 ∨ 58 + (z + 1) < ko) (hz : z + 1 < 16) (i b : Nat) (hi : (i + 1) * 2 ^ (z + 1) ≤ 2 ^ 30) (hb : b + nn ≤ no) : nOk G B l ad N yX12_node cX12_node 6 none (8 + (z + 1)) 0 0 [.ref (ad 49), .int (nI (z + 1)), .int (nI i), .ref (ad ko), .int (nI b)] σ (fun r σ' => r = none ∧ RC G ad θ x sh nn P H K σ' ∧ (∀ k, ¬ (13 ≤ k ∧ k ≤ 17 ∨ k = 49 ∨ k = 28 ∨ k = 30 ∨ (58 < k ∧ k ≤ 58 + (z + 1)) ∨ k = ko) → σ' k = σ k) ∧ bt σ' ko = wr (bt σ ko) b (nodeL (fF θ sh nn P H) K (2 * nn + 3) (z + 1) i)) := by
  refine vOk.of (by decide +kernel) (Nat.le_of_ble_eq_true rfl) ?_
  intro p e s m args below meth c C
  refine v_eq (lv' := [(0, .ref (ad 49)), (1, .int (nI (z + 1))), (2, .int (nI i)), (3, .ref (ad ko)), (4, .int (nI b))]) rfl rfl rfl ?_
  have hn := hC.qnn
  have hp0 : rLn (58 + (z + 1)) = 64 := rLn_pair (z + 1) (by omega)
  have hA : (2 * i + 1 + 1) * 2 ^ z ≤ 2 ^ 30 := by rw [show 2 * i + 1 + 1 = (i + 1) * 2 by omega, Nat.mul_assoc, Nat.mul_comm 2, ← Nat.pow_succ]; exact hi
  have hB : (2 * i + 1) * 2 ^ z ≤ 2 ^ 30 := Nat.le_trans (Nat.mul_le_mul_right _ (by omega)) hA
  have hi3 : i + 1 ≤ 2 ^ 30 := Nat.le_trans (Nat.le_mul_of_pos_right (i + 1) (Nat.two_pow_pos (z + 1))) hi
  refine v_iload_n C eX12_node_0 rfl 1 rfl ?_
  refine v_if_ne (tgt := 13) C eX12_node_1 (by decide) (fun _ => ?_) (fun h => absurd h (ix_ne (a := z + 1) (b := 0) (rfl : nI (z + 1) = nI (z + 1)) (rfl : (0 : Int32) = nI 0) (by omega) (by omega) (by omega)))
  refine v_aload_n C eX12_node_13 rfl 0 rfl ?_
  refine n_get C I fX12_84_X12 eX12_node_14 (hN 49 (by decide)) hC.s.obj rfl ?_
  refine v_iload_n C eX12_node_17 rfl 1 rfl ?_
  refine n_aald (b := ad (58 + (z + 1))) C I eX12_node_18 (hN 29 (by decide)) hC.s.pair (z + 1) (rfl : nI (z + 1) = nI (z + 1)) (by omega) (by decide) rfl ?_
  refine v_astore (lv' := [(0, .ref (ad 49)), (1, .int (nI (z + 1))), (2, .int (nI i)), (3, .ref (ad ko)), (4, .int (nI b)), (5, .ref (ad (58 + (z + 1))))]) C eX12_node_19 (by decide) [1, 2, 3, 4, 5, 0] rfl ?_
  refine v_aload_n C eX12_node_21 rfl 0 rfl ?_
  refine v_iload_n C eX12_node_22 rfl 1 rfl ?_
  refine v_iconst (v := (1 : Int32)) C eX12_node_23 (by decide) ?_
  refine v_isub C eX12_node_24 ?_
  refine v_iconst (v := (2 : Int32)) C eX12_node_25 (by decide) ?_
  refine v_iload_n C eX12_node_26 rfl 2 rfl ?_
  refine v_imul C eX12_node_27 ?_
  refine v_aload C eX12_node_28 5 rfl ?_
  refine v_iconst (v := (0 : Int32)) C eX12_node_30 (by decide) ?_
  refine n_callV (As := [.int (nI ((z + 1) - 1)), .int (nI (2 * i)), .ref (ad (58 + (z + 1))), .int (nI 0)]) (rest := []) C I mX12_288 (ih hC h47 (ko := 58 + (z + 1)) (no := 64) hp0 (by decide) (by omega) (by omega) (by omega) (2 * i) 0 hB (by omega)) (hN 49 (by decide)) hC.s.obj rfl (by omega) (by decide) ⟨by decide, by decide⟩ rfl (vi_c (rfl : (0 : Int32) = nI 0) (vi_k (vi_c (ix_mul (a := 2) (b := i) (rfl : (2 : Int32) = nI 2) (rfl : nI i = nI i)) (vi_c (ix_sub (a := z + 1) (b := 1) (rfl : nI (z + 1) = nI (z + 1)) (rfl : (1 : Int32) = nI 1) (by omega)) rfl)))) (Nat.le_of_ble_eq_true rfl) eX12_node_31 (fun r σ1 hp => ?_)
  obtain ⟨rfl, hC1, hk1, hv1⟩ := hp
  refine v_aload_n C eX12_node_34 rfl 0 rfl ?_
  refine v_iload_n C eX12_node_35 rfl 1 rfl ?_
  refine v_iconst (v := (1 : Int32)) C eX12_node_36 (by decide) ?_
  refine v_isub C eX12_node_37 ?_
  refine v_iconst (v := (2 : Int32)) C eX12_node_38 (by decide) ?_
  refine v_iload_n C eX12_node_39 rfl 2 rfl ?_
  refine v_imul C eX12_node_40 ?_
  refine v_iconst (v := (1 : Int32)) C eX12_node_41 (by decide) ?_
  refine v_iadd C eX12_node_42 ?_
  refine v_aload C eX12_node_43 5 rfl ?_
  refine v_aload_n C eX12_node_45 rfl 0 rfl ?_
  refine n_get C I fX12_243_X12 eX12_node_46 (hN 49 (by decide)) hC1.s.obj rfl ?_
  refine n_callV (As := [.int (nI ((z + 1) - 1)), .int (nI ((2 * i) + 1)), .ref (ad (58 + (z + 1))), .int (nI nn)]) (rest := []) C I mX12_288 (ih hC1 h47 (ko := 58 + (z + 1)) (no := 64) hp0 (by decide) (by omega) (by omega) (by omega) (2 * i + 1) nn hA (by omega)) (hN 49 (by decide)) hC1.s.obj rfl (by omega) (by decide) ⟨by decide, by decide⟩ rfl (vi_c hC1.n (vi_k (vi_c (ix_add (a := 2 * i) (b := 1) (ix_mul (a := 2) (b := i) (rfl : (2 : Int32) = nI 2) (rfl : nI i = nI i)) (rfl : (1 : Int32) = nI 1)) (vi_c (ix_sub (a := z + 1) (b := 1) (rfl : nI (z + 1) = nI (z + 1)) (rfl : (1 : Int32) = nI 1) (by omega)) rfl)))) (Nat.le_of_ble_eq_true rfl) eX12_node_49 (fun r σ2 hp => ?_)
  obtain ⟨rfl, hC2, hk2, hv2⟩ := hp
  refine v_aload_n C eX12_node_52 rfl 0 rfl ?_
  refine v_iconst (v := (2 : Int32)) C eX12_node_53 (by decide) ?_
  refine v_iconst (v := (0 : Int32)) C eX12_node_54 (by decide) ?_
  refine v_iload_n C eX12_node_55 rfl 1 rfl ?_
  refine v_iload_n C eX12_node_56 rfl 2 rfl ?_
  refine n_callV (As := [.int (nI 2), .int (nI 0), .int (nI (z + 1)), .int (nI i)]) (rest := []) C I mX12_272 (rc_type I hN hC2 2 0 (z + 1) i) (hN 49 (by decide)) hC2.s.obj rfl (by omega) (by decide) ⟨by decide, by decide⟩ rfl (vi_c (rfl : nI i = nI i) (vi_c (rfl : nI (z + 1) = nI (z + 1)) (vi_c (rfl : (0 : Int32) = nI 0) (vi_c (rfl : (2 : Int32) = nI 2) rfl)))) (Nat.le_of_ble_eq_true rfl) eX12_node_57 (fun r σ3 hp => ?_)
  obtain ⟨rfl, hC3, hk3, hY3⟩ := hp
  refine v_aload_n C eX12_node_60 rfl 0 rfl ?_
  refine v_aload C eX12_node_61 5 rfl ?_
  refine v_iconst (v := (0 : Int32)) C eX12_node_63 (by decide) ?_
  refine v_iconst (v := (2 : Int32)) C eX12_node_64 (by decide) ?_
  refine v_aload_n C eX12_node_65 rfl 0 rfl ?_
  refine n_get C I fX12_243_X12 eX12_node_66 (hN 49 (by decide)) hC3.s.obj rfl ?_
  refine v_imul C eX12_node_69 ?_
  refine v_aload_n C eX12_node_70 rfl 3 rfl ?_
  refine v_iload C eX12_node_71 4 rfl ?_
  refine n_callV (As := [.ref (ad (58 + (z + 1))), .int (nI 0), .int (nI (2 * nn)), .ref (ad ko), .int (nI b)]) (rest := []) C I mX12_268 (rc_hashed I hN hC3 hY3 hp0 (by decide) hko ho0 hfr 0 (2 * nn) b (by omega) hb) (hN 49 (by decide)) hC3.s.obj rfl (by omega) (by decide) ⟨by decide, by decide⟩ rfl (vi_c (rfl : nI b = nI b) (vi_k (vi_c (ix_mul (a := 2) (b := nn) (rfl : (2 : Int32) = nI 2) hC3.n) (vi_c (rfl : (0 : Int32) = nI 0) (vi_k rfl))))) (Nat.le_of_ble_eq_true rfl) eX12_node_73 (fun r σ4 hp => ?_)
  obtain ⟨rfl, hC4, hk4, hv4⟩ := hp
  refine n_vret C rfl eX12_node_76 ⟨rfl, hC4, fun k hk => (hk4 k (by omega)).trans ((hk3 k (by omega)).trans ((hk2 k (by omega)).trans (hk1 k (by omega)))), ?_⟩
  have hko2 := rLn_h (k := ko) (by omega)
  rw [hv4, bt_same (hk3 ko hfr.1), bt_same (hk2 ko (by omega)), bt_same (hk1 ko (by omega)), bt_same (hk3 (58 + (z + 1)) (by omega)), hv2, hv1, wr_app (by rw [nodeL_len]; omega), sl_wr' (by rw [List.length_append, nodeL_len, nodeL_len]; omega)]
  rfl

theorem rc_node (I : nI1 ad N) (hN : ∀ k, k < 74 → k < N) (h47 : x 47 = nI (2 * nn + 3)) : ∀ (z : Nat), z < 16 → ∀ {σ : nS}, RC G ad θ x sh nn P H K σ → ∀ {ko no : Nat}, rLn ko = no → 0 < no → (ko ≠ 28 ∧ ko ≠ 37 ∧ ko ≠ 38) → ko ≠ 30 → (ko < 58 ∨ 58 + z < ko) → ∀ (i b : Nat), (i + 1) * 2 ^ z ≤ 2 ^ 30 → b + nn ≤ no → nOk G B l ad N yX12_node cX12_node 6 none (8 + z) 0 0 [.ref (ad 49), .int (nI z), .int (nI i), .ref (ad ko), .int (nI b)] σ (fun r σ' => r = none ∧ RC G ad θ x sh nn P H K σ' ∧ (∀ k, ¬ (13 ≤ k ∧ k ≤ 17 ∨ k = 49 ∨ k = 28 ∨ k = 30 ∨ (58 < k ∧ k ≤ 58 + z) ∨ k = ko) → σ' k = σ k) ∧ bt σ' ko = wr (bt σ ko) b (nodeL (fF θ sh nn P H) K (2 * nn + 3) z i))
  | 0, _, _, hC, _, _, hko, ho0, hfr, hk30, _, i, b, _, hb => rc_node0 I hN hC h47 hko ho0 hfr hk30 i b hb
  | z + 1, hz, _, hC, _, _, hko, ho0, hfr, hk30, hkp, i, b, hi, hb => rc_node1 I hN (fun hC h47 _ _ h1 h2 h3 h4 h5 i b h6 h7 => rc_node I hN h47 z (by omega) hC h1 h2 h3 h4 h5 i b h6 h7) hC h47 hko ho0 hfr hk30 hkp hz i b hi hb
end M20
end
