section
-- ===== PART A: goes FIRST, ahead of the names: the tables' words, and 'selects' of the private methods out of them =====
/-- a private method of a class that the tables say can be made, by its rows of tables_1 -/
def lw_okq (q : MethodName × Nat) : Prop := (q.1.cls ≠ "java/lang/invoke/MethodHandle" ∧ q.1.cls ≠ "java/lang/invoke/VarHandle") ∧ Cond.instantiable q.1.cls q.2 ∈ tables_1 ∧ Cond.privateMethod q.1 ∈ tables_1 ∧ Cond.instanceMethod q.1 ∈ tables_1
theorem lw_p0 : lw_okq (⟨"java/lang/Throwable", "fillInStackTrace", "(I)Ljava/lang/Throwable;"⟩, 6) := ⟨⟨by decide +kernel, by decide +kernel⟩, List.mem_of_getElem? (i := 371) (by decide +kernel), List.mem_of_getElem? (i := 369) (by decide +kernel), List.mem_of_getElem? (i := 370) (by decide +kernel)⟩
theorem lw_p1 : lw_okq (⟨"HashTreeSigner", "putOnTape", "(I)V"⟩, 8) := ⟨⟨by decide +kernel, by decide +kernel⟩, List.mem_of_getElem? (i := 36) (by decide +kernel), List.mem_of_getElem? (i := 400) (by decide +kernel), List.mem_of_getElem? (i := 401) (by decide +kernel)⟩
theorem lw_p2 : lw_okq (⟨"HashTreeSigner", "setSlot", "(I[BI)V"⟩, 8) := ⟨⟨by decide +kernel, by decide +kernel⟩, List.mem_of_getElem? (i := 36) (by decide +kernel), List.mem_of_getElem? (i := 436) (by decide +kernel), List.mem_of_getElem? (i := 437) (by decide +kernel)⟩
theorem lw_p3 : lw_okq (⟨"HashTreeSigner", "checkPlace", "(II)V"⟩, 8) := ⟨⟨by decide +kernel, by decide +kernel⟩, List.mem_of_getElem? (i := 36) (by decide +kernel), List.mem_of_getElem? (i := 730) (by decide +kernel), List.mem_of_getElem? (i := 731) (by decide +kernel)⟩
theorem lw_p4 : lw_okq (⟨"HashTreeSigner", "treesOf", "(I)LHashTreeSigner$Trees;"⟩, 8) := ⟨⟨by decide +kernel, by decide +kernel⟩, List.mem_of_getElem? (i := 36) (by decide +kernel), List.mem_of_getElem? (i := 792) (by decide +kernel), List.mem_of_getElem? (i := 793) (by decide +kernel)⟩
theorem lw_p5 : lw_okq (⟨"HashTreeSigner$Trees", "forestLeaf", "(II)V"⟩, 12) := ⟨⟨by decide +kernel, by decide +kernel⟩, List.mem_of_getElem? (i := 48) (by decide +kernel), List.mem_of_getElem? (i := 875) (by decide +kernel), List.mem_of_getElem? (i := 876) (by decide +kernel)⟩
theorem lw_p6 : lw_okq (⟨"HashTreeSigner$Address", "put", "(II)V"⟩, 5) := ⟨⟨by decide +kernel, by decide +kernel⟩, List.mem_of_getElem? (i := 55) (by decide +kernel), List.mem_of_getElem? (i := 883) (by decide +kernel), List.mem_of_getElem? (i := 884) (by decide +kernel)⟩
theorem lw_p7 : lw_okq (⟨"HashTreeSigner$Sponge", "permute", "()V"⟩, 3) := ⟨⟨by decide +kernel, by decide +kernel⟩, List.mem_of_getElem? (i := 85) (by decide +kernel), List.mem_of_getElem? (i := 922) (by decide +kernel), List.mem_of_getElem? (i := 923) (by decide +kernel)⟩
theorem lw_p8 : lw_okq (⟨"HashTreeSigner", "checkContext", "(I)V"⟩, 8) := ⟨⟨by decide +kernel, by decide +kernel⟩, List.mem_of_getElem? (i := 36) (by decide +kernel), List.mem_of_getElem? (i := 969) (by decide +kernel), List.mem_of_getElem? (i := 970) (by decide +kernel)⟩
theorem lw_p9 : lw_okq (⟨"HashTreeSigner", "checkSecret", "(LHashTreeSigner$Sizes;)V"⟩, 8) := ⟨⟨by decide +kernel, by decide +kernel⟩, List.mem_of_getElem? (i := 36) (by decide +kernel), List.mem_of_getElem? (i := 975) (by decide +kernel), List.mem_of_getElem? (i := 976) (by decide +kernel)⟩
theorem lw_p10 : lw_okq (⟨"HashTreeSigner", "laySigned", "(I)V"⟩, 8) := ⟨⟨by decide +kernel, by decide +kernel⟩, List.mem_of_getElem? (i := 36) (by decide +kernel), List.mem_of_getElem? (i := 995) (by decide +kernel), List.mem_of_getElem? (i := 996) (by decide +kernel)⟩
theorem lw_p11 : lw_okq (⟨"HashTreeSigner$Sha2Family", "messageHash", "()LHashTreeSigner$Sha2;"⟩, 8) := ⟨⟨by decide +kernel, by decide +kernel⟩, List.mem_of_getElem? (i := 210) (by decide +kernel), List.mem_of_getElem? (i := 1009) (by decide +kernel), List.mem_of_getElem? (i := 1010) (by decide +kernel)⟩
theorem lw_p12 : lw_okq (⟨"HashTreeSigner$Sha2Family", "startKeyed", "(LHashTreeSigner$Sha2;I)V"⟩, 8) := ⟨⟨by decide +kernel, by decide +kernel⟩, List.mem_of_getElem? (i := 210) (by decide +kernel), List.mem_of_getElem? (i := 1013) (by decide +kernel), List.mem_of_getElem? (i := 1014) (by decide +kernel)⟩
theorem lw_p13 : lw_okq (⟨"HashTreeSigner$Trees", "number", "(II)J"⟩, 12) := ⟨⟨by decide +kernel, by decide +kernel⟩, List.mem_of_getElem? (i := 48) (by decide +kernel), List.mem_of_getElem? (i := 1035) (by decide +kernel), List.mem_of_getElem? (i := 1036) (by decide +kernel)⟩
theorem lw_p14 : lw_okq (⟨"HashTreeSigner$Trees", "enterForest", "()V"⟩, 12) := ⟨⟨by decide +kernel, by decide +kernel⟩, List.mem_of_getElem? (i := 48) (by decide +kernel), List.mem_of_getElem? (i := 1043) (by decide +kernel), List.mem_of_getElem? (i := 1044) (by decide +kernel)⟩
theorem lw_p15 : lw_okq (⟨"HashTreeSigner$Trees", "chosen", "(I)I"⟩, 12) := ⟨⟨by decide +kernel, by decide +kernel⟩, List.mem_of_getElem? (i := 48) (by decide +kernel), List.mem_of_getElem? (i := 1047) (by decide +kernel), List.mem_of_getElem? (i := 1048) (by decide +kernel)⟩
def lw_privs_1 : List (MethodName × Nat) := [(⟨"java/lang/Throwable", "fillInStackTrace", "(I)Ljava/lang/Throwable;"⟩, 6), (⟨"HashTreeSigner", "putOnTape", "(I)V"⟩, 8), (⟨"HashTreeSigner", "setSlot", "(I[BI)V"⟩, 8), (⟨"HashTreeSigner", "checkPlace", "(II)V"⟩, 8), (⟨"HashTreeSigner", "treesOf", "(I)LHashTreeSigner$Trees;"⟩, 8), (⟨"HashTreeSigner$Trees", "forestLeaf", "(II)V"⟩, 12), (⟨"HashTreeSigner$Address", "put", "(II)V"⟩, 5), (⟨"HashTreeSigner$Sponge", "permute", "()V"⟩, 3), (⟨"HashTreeSigner", "checkContext", "(I)V"⟩, 8), (⟨"HashTreeSigner", "checkSecret", "(LHashTreeSigner$Sizes;)V"⟩, 8), (⟨"HashTreeSigner", "laySigned", "(I)V"⟩, 8), (⟨"HashTreeSigner$Sha2Family", "messageHash", "()LHashTreeSigner$Sha2;"⟩, 8), (⟨"HashTreeSigner$Sha2Family", "startKeyed", "(LHashTreeSigner$Sha2;I)V"⟩, 8), (⟨"HashTreeSigner$Trees", "number", "(II)J"⟩, 12), (⟨"HashTreeSigner$Trees", "enterForest", "()V"⟩, 12), (⟨"HashTreeSigner$Trees", "chosen", "(I)I"⟩, 12)]
theorem lw_r1 : ∀ q ∈ lw_privs_1, lw_okq q := List.forall_mem_cons.mpr ⟨lw_p0, List.forall_mem_cons.mpr ⟨lw_p1, List.forall_mem_cons.mpr ⟨lw_p2, List.forall_mem_cons.mpr ⟨lw_p3, List.forall_mem_cons.mpr ⟨lw_p4, List.forall_mem_cons.mpr ⟨lw_p5, List.forall_mem_cons.mpr ⟨lw_p6, List.forall_mem_cons.mpr ⟨lw_p7, List.forall_mem_cons.mpr ⟨lw_p8, List.forall_mem_cons.mpr ⟨lw_p9, List.forall_mem_cons.mpr ⟨lw_p10, List.forall_mem_cons.mpr ⟨lw_p11, List.forall_mem_cons.mpr ⟨lw_p12, List.forall_mem_cons.mpr ⟨lw_p13, List.forall_mem_cons.mpr ⟨lw_p14, List.forall_mem_cons.mpr ⟨lw_p15, fun _ h => absurd h List.not_mem_nil⟩⟩⟩⟩⟩⟩⟩⟩⟩⟩⟩⟩⟩⟩⟩⟩
theorem lw_p16 : lw_okq (⟨"HashTreeSigner$Trees", "climb", "(II[BI[BI)V"⟩, 12) := ⟨⟨by decide +kernel, by decide +kernel⟩, List.mem_of_getElem? (i := 48) (by decide +kernel), List.mem_of_getElem? (i := 1056) (by decide +kernel), List.mem_of_getElem? (i := 1057) (by decide +kernel)⟩
theorem lw_p17 : lw_okq (⟨"HashTreeSignerModel", "constants", "()V"⟩, 49) := ⟨⟨by decide +kernel, by decide +kernel⟩, List.mem_of_getElem? (i := 1092) (by decide +kernel), List.mem_of_getElem? (i := 1100) (by decide +kernel), List.mem_of_getElem? (i := 1101) (by decide +kernel)⟩
theorem lw_p18 : lw_okq (⟨"HashTreeSignerModel", "root", "(II)J"⟩, 49) := ⟨⟨by decide +kernel, by decide +kernel⟩, List.mem_of_getElem? (i := 1092) (by decide +kernel), List.mem_of_getElem? (i := 1107) (by decide +kernel), List.mem_of_getElem? (i := 1108) (by decide +kernel)⟩
theorem lw_p19 : lw_okq (⟨"HashTreeSignerModel", "above", "(IJII)Z"⟩, 49) := ⟨⟨by decide +kernel, by decide +kernel⟩, List.mem_of_getElem? (i := 1092) (by decide +kernel), List.mem_of_getElem? (i := 1111) (by decide +kernel), List.mem_of_getElem? (i := 1112) (by decide +kernel)⟩
theorem lw_p20 : lw_okq (⟨"HashTreeSignerModel", "named", "([JII)V"⟩, 49) := ⟨⟨by decide +kernel, by decide +kernel⟩, List.mem_of_getElem? (i := 1092) (by decide +kernel), List.mem_of_getElem? (i := 1119) (by decide +kernel), List.mem_of_getElem? (i := 1120) (by decide +kernel)⟩
theorem lw_p21 : lw_okq (⟨"HashTreeSignerModel", "begin", "(I)V"⟩, 49) := ⟨⟨by decide +kernel, by decide +kernel⟩, List.mem_of_getElem? (i := 1092) (by decide +kernel), List.mem_of_getElem? (i := 1123) (by decide +kernel), List.mem_of_getElem? (i := 1124) (by decide +kernel)⟩
theorem lw_p22 : lw_okq (⟨"HashTreeSignerModel", "put", "(I)V"⟩, 49) := ⟨⟨by decide +kernel, by decide +kernel⟩, List.mem_of_getElem? (i := 1092) (by decide +kernel), List.mem_of_getElem? (i := 1135) (by decide +kernel), List.mem_of_getElem? (i := 1136) (by decide +kernel)⟩
theorem lw_p23 : lw_okq (⟨"HashTreeSignerModel", "sponge", "()Z"⟩, 49) := ⟨⟨by decide +kernel, by decide +kernel⟩, List.mem_of_getElem? (i := 1092) (by decide +kernel), List.mem_of_getElem? (i := 1139) (by decide +kernel), List.mem_of_getElem? (i := 1140) (by decide +kernel)⟩
theorem lw_p24 : lw_okq (⟨"HashTreeSignerModel", "flip", "(II)V"⟩, 49) := ⟨⟨by decide +kernel, by decide +kernel⟩, List.mem_of_getElem? (i := 1092) (by decide +kernel), List.mem_of_getElem? (i := 1143) (by decide +kernel), List.mem_of_getElem? (i := 1144) (by decide +kernel)⟩
theorem lw_p25 : lw_okq (⟨"HashTreeSignerModel", "permute", "()V"⟩, 49) := ⟨⟨by decide +kernel, by decide +kernel⟩, List.mem_of_getElem? (i := 1092) (by decide +kernel), List.mem_of_getElem? (i := 1148) (by decide +kernel), List.mem_of_getElem? (i := 1149) (by decide +kernel)⟩
theorem lw_p26 : lw_okq (⟨"HashTreeSignerModel", "compress32", "()V"⟩, 49) := ⟨⟨by decide +kernel, by decide +kernel⟩, List.mem_of_getElem? (i := 1092) (by decide +kernel), List.mem_of_getElem? (i := 1156) (by decide +kernel), List.mem_of_getElem? (i := 1157) (by decide +kernel)⟩
theorem lw_p27 : lw_okq (⟨"HashTreeSignerModel", "compress64", "()V"⟩, 49) := ⟨⟨by decide +kernel, by decide +kernel⟩, List.mem_of_getElem? (i := 1092) (by decide +kernel), List.mem_of_getElem? (i := 1163) (by decide +kernel), List.mem_of_getElem? (i := 1164) (by decide +kernel)⟩
theorem lw_p28 : lw_okq (⟨"HashTreeSignerModel", "finish", "()V"⟩, 49) := ⟨⟨by decide +kernel, by decide +kernel⟩, List.mem_of_getElem? (i := 1092) (by decide +kernel), List.mem_of_getElem? (i := 1170) (by decide +kernel), List.mem_of_getElem? (i := 1171) (by decide +kernel)⟩
theorem lw_p29 : lw_okq (⟨"HashTreeSignerModel", "good", "(ZI)Z"⟩, 49) := ⟨⟨by decide +kernel, by decide +kernel⟩, List.mem_of_getElem? (i := 1092) (by decide +kernel), List.mem_of_getElem? (i := 1331) (by decide +kernel), List.mem_of_getElem? (i := 1332) (by decide +kernel)⟩
theorem lw_p30 : lw_okq (⟨"HashTreeSignerModel", "word", "(I)V"⟩, 49) := ⟨⟨by decide +kernel, by decide +kernel⟩, List.mem_of_getElem? (i := 1092) (by decide +kernel), List.mem_of_getElem? (i := 1335) (by decide +kernel), List.mem_of_getElem? (i := 1336) (by decide +kernel)⟩
theorem lw_p31 : lw_okq (⟨"HashTreeSignerModel", "slh", "(I)V"⟩, 49) := ⟨⟨by decide +kernel, by decide +kernel⟩, List.mem_of_getElem? (i := 1092) (by decide +kernel), List.mem_of_getElem? (i := 1374) (by decide +kernel), List.mem_of_getElem? (i := 1375) (by decide +kernel)⟩
def lw_privs_2 : List (MethodName × Nat) := [(⟨"HashTreeSigner$Trees", "climb", "(II[BI[BI)V"⟩, 12), (⟨"HashTreeSignerModel", "constants", "()V"⟩, 49), (⟨"HashTreeSignerModel", "root", "(II)J"⟩, 49), (⟨"HashTreeSignerModel", "above", "(IJII)Z"⟩, 49), (⟨"HashTreeSignerModel", "named", "([JII)V"⟩, 49), (⟨"HashTreeSignerModel", "begin", "(I)V"⟩, 49), (⟨"HashTreeSignerModel", "put", "(I)V"⟩, 49), (⟨"HashTreeSignerModel", "sponge", "()Z"⟩, 49), (⟨"HashTreeSignerModel", "flip", "(II)V"⟩, 49), (⟨"HashTreeSignerModel", "permute", "()V"⟩, 49), (⟨"HashTreeSignerModel", "compress32", "()V"⟩, 49), (⟨"HashTreeSignerModel", "compress64", "()V"⟩, 49), (⟨"HashTreeSignerModel", "finish", "()V"⟩, 49), (⟨"HashTreeSignerModel", "good", "(ZI)Z"⟩, 49), (⟨"HashTreeSignerModel", "word", "(I)V"⟩, 49), (⟨"HashTreeSignerModel", "slh", "(I)V"⟩, 49)]
theorem lw_r2 : ∀ q ∈ lw_privs_2, lw_okq q := List.forall_mem_cons.mpr ⟨lw_p16, List.forall_mem_cons.mpr ⟨lw_p17, List.forall_mem_cons.mpr ⟨lw_p18, List.forall_mem_cons.mpr ⟨lw_p19, List.forall_mem_cons.mpr ⟨lw_p20, List.forall_mem_cons.mpr ⟨lw_p21, List.forall_mem_cons.mpr ⟨lw_p22, List.forall_mem_cons.mpr ⟨lw_p23, List.forall_mem_cons.mpr ⟨lw_p24, List.forall_mem_cons.mpr ⟨lw_p25, List.forall_mem_cons.mpr ⟨lw_p26, List.forall_mem_cons.mpr ⟨lw_p27, List.forall_mem_cons.mpr ⟨lw_p28, List.forall_mem_cons.mpr ⟨lw_p29, List.forall_mem_cons.mpr ⟨lw_p30, List.forall_mem_cons.mpr ⟨lw_p31, fun _ h => absurd h List.not_mem_nil⟩⟩⟩⟩⟩⟩⟩⟩⟩⟩⟩⟩⟩⟩⟩⟩
theorem lw_p32 : lw_okq (⟨"HashTreeSignerModel", "place", "(IJ)V"⟩, 49) := ⟨⟨by decide +kernel, by decide +kernel⟩, List.mem_of_getElem? (i := 1092) (by decide +kernel), List.mem_of_getElem? (i := 1381) (by decide +kernel), List.mem_of_getElem? (i := 1382) (by decide +kernel)⟩
theorem lw_p33 : lw_okq (⟨"HashTreeSignerModel", "node", "(II[BI)V"⟩, 49) := ⟨⟨by decide +kernel, by decide +kernel⟩, List.mem_of_getElem? (i := 1092) (by decide +kernel), List.mem_of_getElem? (i := 1385) (by decide +kernel), List.mem_of_getElem? (i := 1386) (by decide +kernel)⟩
theorem lw_p34 : lw_okq (⟨"HashTreeSignerModel", "leaf", "(I[BI)V"⟩, 49) := ⟨⟨by decide +kernel, by decide +kernel⟩, List.mem_of_getElem? (i := 1092) (by decide +kernel), List.mem_of_getElem? (i := 1389) (by decide +kernel), List.mem_of_getElem? (i := 1390) (by decide +kernel)⟩
theorem lw_p35 : lw_okq (⟨"HashTreeSignerModel", "type", "(IIII)V"⟩, 49) := ⟨⟨by decide +kernel, by decide +kernel⟩, List.mem_of_getElem? (i := 1092) (by decide +kernel), List.mem_of_getElem? (i := 1393) (by decide +kernel), List.mem_of_getElem? (i := 1394) (by decide +kernel)⟩
theorem lw_p36 : lw_okq (⟨"HashTreeSignerModel", "pseudo", "([BI)V"⟩, 49) := ⟨⟨by decide +kernel, by decide +kernel⟩, List.mem_of_getElem? (i := 1092) (by decide +kernel), List.mem_of_getElem? (i := 1397) (by decide +kernel), List.mem_of_getElem? (i := 1398) (by decide +kernel)⟩
theorem lw_p37 : lw_okq (⟨"HashTreeSignerModel", "hashed", "([BII[BI)V"⟩, 49) := ⟨⟨by decide +kernel, by decide +kernel⟩, List.mem_of_getElem? (i := 1092) (by decide +kernel), List.mem_of_getElem? (i := 1401) (by decide +kernel), List.mem_of_getElem? (i := 1402) (by decide +kernel)⟩
theorem lw_p38 : lw_okq (⟨"HashTreeSignerModel", "put", "([BII)V"⟩, 49) := ⟨⟨by decide +kernel, by decide +kernel⟩, List.mem_of_getElem? (i := 1092) (by decide +kernel), List.mem_of_getElem? (i := 1405) (by decide +kernel), List.mem_of_getElem? (i := 1406) (by decide +kernel)⟩
theorem lw_p39 : lw_okq (⟨"HashTreeSignerModel", "give", "([BII)V"⟩, 49) := ⟨⟨by decide +kernel, by decide +kernel⟩, List.mem_of_getElem? (i := 1092) (by decide +kernel), List.mem_of_getElem? (i := 1409) (by decide +kernel), List.mem_of_getElem? (i := 1410) (by decide +kernel)⟩
theorem lw_p40 : lw_okq (⟨"HashTreeSignerModel", "squeeze", "()I"⟩, 49) := ⟨⟨by decide +kernel, by decide +kernel⟩, List.mem_of_getElem? (i := 1092) (by decide +kernel), List.mem_of_getElem? (i := 1413) (by decide +kernel), List.mem_of_getElem? (i := 1414) (by decide +kernel)⟩
theorem lw_p41 : lw_okq (⟨"HashTreeSignerModel", "chain", "(IIII[BI)V"⟩, 49) := ⟨⟨by decide +kernel, by decide +kernel⟩, List.mem_of_getElem? (i := 1092) (by decide +kernel), List.mem_of_getElem? (i := 1417) (by decide +kernel), List.mem_of_getElem? (i := 1418) (by decide +kernel)⟩
theorem lw_p42 : lw_okq (⟨"HashTreeSignerModel", "context", "(I)Z"⟩, 49) := ⟨⟨by decide +kernel, by decide +kernel⟩, List.mem_of_getElem? (i := 1092) (by decide +kernel), List.mem_of_getElem? (i := 1425) (by decide +kernel), List.mem_of_getElem? (i := 1426) (by decide +kernel)⟩
theorem lw_p43 : lw_okq (⟨"HashTreeSignerModel", "before", "(I)V"⟩, 49) := ⟨⟨by decide +kernel, by decide +kernel⟩, List.mem_of_getElem? (i := 1092) (by decide +kernel), List.mem_of_getElem? (i := 1429) (by decide +kernel), List.mem_of_getElem? (i := 1430) (by decide +kernel)⟩
theorem lw_p44 : lw_okq (⟨"HashTreeSignerModel", "large", "()I"⟩, 49) := ⟨⟨by decide +kernel, by decide +kernel⟩, List.mem_of_getElem? (i := 1092) (by decide +kernel), List.mem_of_getElem? (i := 1433) (by decide +kernel), List.mem_of_getElem? (i := 1434) (by decide +kernel)⟩
theorem lw_p45 : lw_okq (⟨"HashTreeSignerModel", "startMac", "(I[BII)V"⟩, 49) := ⟨⟨by decide +kernel, by decide +kernel⟩, List.mem_of_getElem? (i := 1092) (by decide +kernel), List.mem_of_getElem? (i := 1437) (by decide +kernel), List.mem_of_getElem? (i := 1438) (by decide +kernel)⟩
theorem lw_p46 : lw_okq (⟨"HashTreeSignerModel", "putSigned", "(I)V"⟩, 49) := ⟨⟨by decide +kernel, by decide +kernel⟩, List.mem_of_getElem? (i := 1092) (by decide +kernel), List.mem_of_getElem? (i := 1441) (by decide +kernel), List.mem_of_getElem? (i := 1442) (by decide +kernel)⟩
theorem lw_p47 : lw_okq (⟨"HashTreeSignerModel", "endMac", "(I[BII)V"⟩, 49) := ⟨⟨by decide +kernel, by decide +kernel⟩, List.mem_of_getElem? (i := 1092) (by decide +kernel), List.mem_of_getElem? (i := 1445) (by decide +kernel), List.mem_of_getElem? (i := 1446) (by decide +kernel)⟩
def lw_privs_3 : List (MethodName × Nat) := [(⟨"HashTreeSignerModel", "place", "(IJ)V"⟩, 49), (⟨"HashTreeSignerModel", "node", "(II[BI)V"⟩, 49), (⟨"HashTreeSignerModel", "leaf", "(I[BI)V"⟩, 49), (⟨"HashTreeSignerModel", "type", "(IIII)V"⟩, 49), (⟨"HashTreeSignerModel", "pseudo", "([BI)V"⟩, 49), (⟨"HashTreeSignerModel", "hashed", "([BII[BI)V"⟩, 49), (⟨"HashTreeSignerModel", "put", "([BII)V"⟩, 49), (⟨"HashTreeSignerModel", "give", "([BII)V"⟩, 49), (⟨"HashTreeSignerModel", "squeeze", "()I"⟩, 49), (⟨"HashTreeSignerModel", "chain", "(IIII[BI)V"⟩, 49), (⟨"HashTreeSignerModel", "context", "(I)Z"⟩, 49), (⟨"HashTreeSignerModel", "before", "(I)V"⟩, 49), (⟨"HashTreeSignerModel", "large", "()I"⟩, 49), (⟨"HashTreeSignerModel", "startMac", "(I[BII)V"⟩, 49), (⟨"HashTreeSignerModel", "putSigned", "(I)V"⟩, 49), (⟨"HashTreeSignerModel", "endMac", "(I[BII)V"⟩, 49)]
theorem lw_r3 : ∀ q ∈ lw_privs_3, lw_okq q := List.forall_mem_cons.mpr ⟨lw_p32, List.forall_mem_cons.mpr ⟨lw_p33, List.forall_mem_cons.mpr ⟨lw_p34, List.forall_mem_cons.mpr ⟨lw_p35, List.forall_mem_cons.mpr ⟨lw_p36, List.forall_mem_cons.mpr ⟨lw_p37, List.forall_mem_cons.mpr ⟨lw_p38, List.forall_mem_cons.mpr ⟨lw_p39, List.forall_mem_cons.mpr ⟨lw_p40, List.forall_mem_cons.mpr ⟨lw_p41, List.forall_mem_cons.mpr ⟨lw_p42, List.forall_mem_cons.mpr ⟨lw_p43, List.forall_mem_cons.mpr ⟨lw_p44, List.forall_mem_cons.mpr ⟨lw_p45, List.forall_mem_cons.mpr ⟨lw_p46, List.forall_mem_cons.mpr ⟨lw_p47, fun _ h => absurd h List.not_mem_nil⟩⟩⟩⟩⟩⟩⟩⟩⟩⟩⟩⟩⟩⟩⟩⟩
theorem lw_p48 : lw_okq (⟨"HashTreeSignerModel", "digestTree", "([BII)V"⟩, 49) := ⟨⟨by decide +kernel, by decide +kernel⟩, List.mem_of_getElem? (i := 1092) (by decide +kernel), List.mem_of_getElem? (i := 1449) (by decide +kernel), List.mem_of_getElem? (i := 1450) (by decide +kernel)⟩
theorem lw_p49 : lw_okq (⟨"HashTreeSignerModel", "mask", "(I[BI[BII)V"⟩, 49) := ⟨⟨by decide +kernel, by decide +kernel⟩, List.mem_of_getElem? (i := 1092) (by decide +kernel), List.mem_of_getElem? (i := 1453) (by decide +kernel), List.mem_of_getElem? (i := 1454) (by decide +kernel)⟩
theorem lw_p50 : lw_okq (⟨"HashTreeSignerModel", "treeNumber", "()J"⟩, 49) := ⟨⟨by decide +kernel, by decide +kernel⟩, List.mem_of_getElem? (i := 1092) (by decide +kernel), List.mem_of_getElem? (i := 1457) (by decide +kernel), List.mem_of_getElem? (i := 1458) (by decide +kernel)⟩
theorem lw_p51 : lw_okq (⟨"HashTreeSignerModel", "pairNumber", "()I"⟩, 49) := ⟨⟨by decide +kernel, by decide +kernel⟩, List.mem_of_getElem? (i := 1092) (by decide +kernel), List.mem_of_getElem? (i := 1461) (by decide +kernel), List.mem_of_getElem? (i := 1462) (by decide +kernel)⟩
theorem lw_p52 : lw_okq (⟨"HashTreeSignerModel", "signForest", "(I[BI)V"⟩, 49) := ⟨⟨by decide +kernel, by decide +kernel⟩, List.mem_of_getElem? (i := 1092) (by decide +kernel), List.mem_of_getElem? (i := 1465) (by decide +kernel), List.mem_of_getElem? (i := 1466) (by decide +kernel)⟩
theorem lw_p53 : lw_okq (⟨"HashTreeSignerModel", "numberOf", "(I)I"⟩, 49) := ⟨⟨by decide +kernel, by decide +kernel⟩, List.mem_of_getElem? (i := 1092) (by decide +kernel), List.mem_of_getElem? (i := 1469) (by decide +kernel), List.mem_of_getElem? (i := 1470) (by decide +kernel)⟩
theorem lw_p54 : lw_okq (⟨"HashTreeSignerModel", "forestNode", "(III[BI)V"⟩, 49) := ⟨⟨by decide +kernel, by decide +kernel⟩, List.mem_of_getElem? (i := 1092) (by decide +kernel), List.mem_of_getElem? (i := 1473) (by decide +kernel), List.mem_of_getElem? (i := 1474) (by decide +kernel)⟩
theorem lw_p55 : lw_okq (⟨"HashTreeSignerModel", "rootOfForest", "(I[BI)V"⟩, 49) := ⟨⟨by decide +kernel, by decide +kernel⟩, List.mem_of_getElem? (i := 1092) (by decide +kernel), List.mem_of_getElem? (i := 1477) (by decide +kernel), List.mem_of_getElem? (i := 1478) (by decide +kernel)⟩
theorem lw_p56 : lw_okq (⟨"HashTreeSignerModel", "climb", "(IIII[BI)V"⟩, 49) := ⟨⟨by decide +kernel, by decide +kernel⟩, List.mem_of_getElem? (i := 1092) (by decide +kernel), List.mem_of_getElem? (i := 1481) (by decide +kernel), List.mem_of_getElem? (i := 1482) (by decide +kernel)⟩
theorem lw_p57 : lw_okq (⟨"HashTreeSignerModel", "signTree", "([BII[BI)V"⟩, 49) := ⟨⟨by decide +kernel, by decide +kernel⟩, List.mem_of_getElem? (i := 1092) (by decide +kernel), List.mem_of_getElem? (i := 1485) (by decide +kernel), List.mem_of_getElem? (i := 1486) (by decide +kernel)⟩
theorem lw_p58 : lw_okq (⟨"HashTreeSignerModel", "digitsOf", "([BI)V"⟩, 49) := ⟨⟨by decide +kernel, by decide +kernel⟩, List.mem_of_getElem? (i := 1092) (by decide +kernel), List.mem_of_getElem? (i := 1489) (by decide +kernel), List.mem_of_getElem? (i := 1490) (by decide +kernel)⟩
theorem lw_p59 : lw_okq (⟨"HashTreeSignerModel", "rootOf", "(I[BI[BI)V"⟩, 49) := ⟨⟨by decide +kernel, by decide +kernel⟩, List.mem_of_getElem? (i := 1092) (by decide +kernel), List.mem_of_getElem? (i := 1493) (by decide +kernel), List.mem_of_getElem? (i := 1494) (by decide +kernel)⟩
def lw_privs_4 : List (MethodName × Nat) := [(⟨"HashTreeSignerModel", "digestTree", "([BII)V"⟩, 49), (⟨"HashTreeSignerModel", "mask", "(I[BI[BII)V"⟩, 49), (⟨"HashTreeSignerModel", "treeNumber", "()J"⟩, 49), (⟨"HashTreeSignerModel", "pairNumber", "()I"⟩, 49), (⟨"HashTreeSignerModel", "signForest", "(I[BI)V"⟩, 49), (⟨"HashTreeSignerModel", "numberOf", "(I)I"⟩, 49), (⟨"HashTreeSignerModel", "forestNode", "(III[BI)V"⟩, 49), (⟨"HashTreeSignerModel", "rootOfForest", "(I[BI)V"⟩, 49), (⟨"HashTreeSignerModel", "climb", "(IIII[BI)V"⟩, 49), (⟨"HashTreeSignerModel", "signTree", "([BII[BI)V"⟩, 49), (⟨"HashTreeSignerModel", "digitsOf", "([BI)V"⟩, 49), (⟨"HashTreeSignerModel", "rootOf", "(I[BI[BI)V"⟩, 49)]
theorem lw_r4 : ∀ q ∈ lw_privs_4, lw_okq q := List.forall_mem_cons.mpr ⟨lw_p48, List.forall_mem_cons.mpr ⟨lw_p49, List.forall_mem_cons.mpr ⟨lw_p50, List.forall_mem_cons.mpr ⟨lw_p51, List.forall_mem_cons.mpr ⟨lw_p52, List.forall_mem_cons.mpr ⟨lw_p53, List.forall_mem_cons.mpr ⟨lw_p54, List.forall_mem_cons.mpr ⟨lw_p55, List.forall_mem_cons.mpr ⟨lw_p56, List.forall_mem_cons.mpr ⟨lw_p57, List.forall_mem_cons.mpr ⟨lw_p58, List.forall_mem_cons.mpr ⟨lw_p59, fun _ h => absurd h List.not_mem_nil⟩⟩⟩⟩⟩⟩⟩⟩⟩⟩⟩⟩
def lw_privs : List (MethodName × Nat) := lw_privs_1 ++ (lw_privs_2 ++ (lw_privs_3 ++ (lw_privs_4)))
def lw_tbl : List Cond := k2_sels lw_privs ++ tables_1
theorem lw_privs_ok : ∀ q ∈ lw_privs, lw_okq q := by
  show ∀ q ∈ lw_privs_1 ++ (lw_privs_2 ++ (lw_privs_3 ++ (lw_privs_4))), lw_okq q
  exact List.forall_mem_append.mpr ⟨lw_r1, List.forall_mem_append.mpr ⟨lw_r2, List.forall_mem_append.mpr ⟨lw_r3, lw_r4⟩⟩⟩
-- ===== end of PART A; then your names; then what follows =====
end
section
/-! ===== BEGIN words of one list among another's, by their places ===== -/
theorem goodIn_r {big : List Cond} (ws : List Cond) (ps : List Nat) (hp : ws = ps.filterMap (fun i => big[i]?)) (h : ws.all goodWord = true) : GoodIn big ws := by
  intro w hw
  have h1 := List.all_eq_true.mp h w hw
  rw [hp] at hw
  obtain ⟨i, -, hi⟩ := List.mem_filterMap.mp hw
  have hm : w ∈ big := by first | exact List.mem_of_getElem? hi | exact List.getElem?_mem hi
  exact ⟨hm, good_of_word h1⟩
theorem goodIn_app {big a b : List Cond} (ha : GoodIn big a) (hb : GoodIn big b) : GoodIn big (a ++ b) := fun w h => (List.mem_append.mp h).elim (ha w) (hb w)
theorem goodIn_ca {big a b : List Cond} {c : Cond} (ha : GoodIn big (c :: a)) (hb : GoodIn big b) : GoodIn big (c :: (a ++ b)) := fun w h => (List.mem_cons.mp h).elim (fun e => ha w (List.mem_cons.mpr (Or.inl e))) (fun h => (List.mem_append.mp h).elim (fun h => ha w (List.mem_cons.mpr (Or.inr h))) (hb w))
theorem goodIn_sub {big ws : List Cond} (hm : ∀ w ∈ ws, w ∈ big) (h : ws.all goodWord = true) : GoodIn big ws := fun w hw => ⟨hm w hw, good_of_word (List.all_eq_true.mp h w hw)⟩
/-! ===== END ===== -/
end
section
def RX0 : String := "HashTreeSigner$Address"
def TX0 : u_T := fun k => match k with
  | 0 => ("HashTreeSigner$Address", "bytes", "[B", true)
  | 1 => ("HashTreeSigner$Address", "layerAt", "I", true)
  | 2 => ("HashTreeSigner$Address", "treeAt", "I", true)
  | 3 => ("HashTreeSigner$Address", "typeAt", "I", true)
  | _ => ("HashTreeSigner$Address", "wordsAt", "I", true)
def tyX0 : Nat → FieldType := fun k => match k with
  | 0 => .array .byte
  | 1 => .int
  | 2 => .int
  | 3 => .int
  | _ => .int
abbrev wsX00 : List Cond := u_ws RX0 TX0 5
theorem nmX0 : ∀ a, a < 5 → ∀ b, b < 5 → a ≠ b → (TX0 a).2.1 ≠ (TX0 b).2.1 := by decide +kernel
theorem tyX0_ok : ∀ k, k < 5 → parseFieldDescriptor (TX0 k).2.2.1 = some (tyX0 k) := by decide +kernel
abbrev cX0_init : ByteArray := prog_2_method_1_code
def yX0_init : MethodName := ⟨RX0, "<init>", "(IIII)V"⟩
abbrev cX0_place : ByteArray := prog_2_method_2_code
def yX0_place : MethodName := ⟨RX0, "place", "(IJ)V"⟩
abbrev cX0_name : ByteArray := prog_2_method_3_code
def yX0_name : MethodName := ⟨RX0, "name", "(IIII)V"⟩
abbrev cX0_step : ByteArray := prog_2_method_4_code
def yX0_step : MethodName := ⟨RX0, "step", "(I)V"⟩
abbrev cX0_put : ByteArray := prog_2_method_5_code
def yX0_put : MethodName := ⟨RX0, "put", "(II)V"⟩
def RX1 : String := "HashTreeSigner$Chains"
def TX1 : u_T := fun k => match k with
  | 0 => ("HashTreeSigner$Chains", "ends", "[B", true)
  | 1 => ("HashTreeSigner$Chains", "first", "[I", true)
  | 2 => ("HashTreeSigner$Chains", "digits", "[I", true)
  | 3 => ("HashTreeSigner$Chains", "last", "[I", true)
  | 4 => ("HashTreeSigner$Chains", "family", "LHashTreeSigner$Family;", true)
  | 5 => ("HashTreeSigner$Chains", "n", "I", false)
  | _ => ("HashTreeSigner$Chains", "count", "I", false)
def tyX1 : Nat → FieldType := fun k => match k with
  | 0 => .array .byte
  | 1 => .array .int
  | 2 => .array .int
  | 3 => .array .int
  | 4 => .object "HashTreeSigner$Family"
  | 5 => .int
  | _ => .int
abbrev wsX10 : List Cond := u_ws RX1 TX1 7
theorem nmX1 : ∀ a, a < 7 → ∀ b, b < 7 → a ≠ b → (TX1 a).2.1 ≠ (TX1 b).2.1 := by decide +kernel
theorem tyX1_ok : ∀ k, k < 7 → parseFieldDescriptor (TX1 k).2.2.1 = some (tyX1 k) := by decide +kernel
abbrev cX1_init : ByteArray := prog_3_method_1_code
def yX1_init : MethodName := ⟨RX1, "<init>", "(LHashTreeSigner$Family;)V"⟩
abbrev cX1_open : ByteArray := prog_3_method_2_code
def yX1_open : MethodName := ⟨RX1, "open", "(LHashTreeSigner$Sizes;)V"⟩
abbrev cX1_setDigits : ByteArray := prog_3_method_3_code
def yX1_setDigits : MethodName := ⟨RX1, "setDigits", "([B)V"⟩
abbrev cX1_begin : ByteArray := prog_3_method_4_code
def yX1_begin : MethodName := ⟨RX1, "begin", "(I[BI)V"⟩
abbrev cX1_walk : ByteArray := prog_3_method_5_code
def yX1_walk : MethodName := ⟨RX1, "walk", "(I[I[I[BI)V"⟩
abbrev cX1_close : ByteArray := prog_3_method_6_code
def yX1_close : MethodName := ⟨RX1, "close", "(I[BI)V"⟩
def RX2 : String := "HashTreeSigner$Family"
def TX2 : u_T := fun k => match k with
  | _ => ("", "", "", false)
def tyX2 : Nat → FieldType := fun k => match k with
  | _ => .int
abbrev wsX20 : List Cond := u_ws RX2 TX2 0
theorem nmX2 : ∀ a, a < 0 → ∀ b, b < 0 → a ≠ b → (TX2 a).2.1 ≠ (TX2 b).2.1 := by decide +kernel
theorem tyX2_ok : ∀ k, k < 0 → parseFieldDescriptor (TX2 k).2.2.1 = some (tyX2 k) := by decide +kernel
abbrev cX2_init : ByteArray := prog_4_method_1_code
def yX2_init : MethodName := ⟨RX2, "<init>", "(LHashTreeSigner$Address;)V"⟩
abbrev cX2_open : ByteArray := prog_4_method_2_code
def yX2_open : MethodName := ⟨RX2, "open", "(I[BII)V"⟩
def RX3 : String := "HashTreeSigner$Sha2"
def TX3 : u_T := fun k => match k with
  | _ => ("", "", "", false)
def tyX3 : Nat → FieldType := fun k => match k with
  | _ => .int
abbrev wsX30 : List Cond := u_ws RX3 TX3 0
theorem nmX3 : ∀ a, a < 0 → ∀ b, b < 0 → a ≠ b → (TX3 a).2.1 ≠ (TX3 b).2.1 := by decide +kernel
theorem tyX3_ok : ∀ k, k < 0 → parseFieldDescriptor (TX3 k).2.2.1 = some (tyX3 k) := by decide +kernel
abbrev cX3_init : ByteArray := prog_5_method_1_code
def yX3_init : MethodName := ⟨RX3, "<init>", "(I)V"⟩
abbrev cX3_start : ByteArray := prog_5_method_3_code
def yX3_start : MethodName := ⟨RX3, "start", "()V"⟩
abbrev cX3_keep : ByteArray := prog_5_method_4_code
def yX3_keep : MethodName := ⟨RX3, "keep", "()V"⟩
abbrev cX3_resume : ByteArray := prog_5_method_5_code
def yX3_resume : MethodName := ⟨RX3, "resume", "()V"⟩
abbrev cX3_add : ByteArray := prog_5_method_6_code
def yX3_add : MethodName := ⟨RX3, "add", "([BII)V"⟩
abbrev cX3_finish : ByteArray := prog_5_method_7_code
def yX3_finish : MethodName := ⟨RX3, "finish", "([BII)V"⟩
def RX4 : String := "HashTreeSigner$Sha256"
def TX4 : u_T := fun k => match k with
  | 0 => ("HashTreeSigner$Sha2", "blockBytes", "I", true)
  | 1 => ("HashTreeSigner$Sha2", "block", "[B", true)
  | 2 => ("HashTreeSigner$Sha2", "state", "[J", true)
  | 3 => ("HashTreeSigner$Sha2", "wordShift", "I", true)
  | 4 => ("HashTreeSigner$Sha2", "kept", "[J", true)
  | 5 => ("HashTreeSigner$Sha2", "fill", "I", false)
  | 6 => ("HashTreeSigner$Sha2", "total", "J", false)
  | _ => ("HashTreeSigner$Sha256", "w", "[I", true)
def tyX4 : Nat → FieldType := fun k => match k with
  | 0 => .int
  | 1 => .array .byte
  | 2 => .array .long
  | 3 => .int
  | 4 => .array .long
  | 5 => .int
  | 6 => .long
  | _ => .array .int
abbrev wsX40 : List Cond := u_ws RX4 TX4 8
theorem nmX4 : ∀ a, a < 8 → ∀ b, b < 8 → a ≠ b → (TX4 a).2.1 ≠ (TX4 b).2.1 := by decide +kernel
theorem tyX4_ok : ∀ k, k < 8 → parseFieldDescriptor (TX4 k).2.2.1 = some (tyX4 k) := by decide +kernel
abbrev cX4_init : ByteArray := prog_6_method_1_code
def yX4_init : MethodName := ⟨RX4, "<init>", "()V"⟩
abbrev cX4_compress : ByteArray := prog_6_method_2_code
def yX4_compress : MethodName := ⟨RX4, "compress", "()V"⟩
def RX5 : String := "HashTreeSigner$Sha2Family"
def TX5 : u_T := fun k => match k with
  | 0 => ("HashTreeSigner$Family", "address", "LHashTreeSigner$Address;", true)
  | 1 => ("HashTreeSigner$Family", "key", "[B", true)
  | 2 => ("HashTreeSigner$Family", "n", "I", false)
  | 3 => ("HashTreeSigner$Sha2Family", "narrow", "LHashTreeSigner$Sha2;", true)
  | 4 => ("HashTreeSigner$Sha2Family", "wide", "LHashTreeSigner$Sha2;", true)
  | 5 => ("HashTreeSigner$Sha2Family", "pad", "[B", true)
  | 6 => ("HashTreeSigner$Sha2Family", "inner", "[B", true)
  | _ => ("HashTreeSigner$Sha2Family", "counter", "[B", true)
def tyX5 : Nat → FieldType := fun k => match k with
  | 0 => .object "HashTreeSigner$Address"
  | 1 => .array .byte
  | 2 => .int
  | 3 => .object "HashTreeSigner$Sha2"
  | 4 => .object "HashTreeSigner$Sha2"
  | 5 => .array .byte
  | 6 => .array .byte
  | _ => .array .byte
abbrev wsX50 : List Cond := u_ws RX5 TX5 8
theorem nmX5 : ∀ a, a < 8 → ∀ b, b < 8 → a ≠ b → (TX5 a).2.1 ≠ (TX5 b).2.1 := by decide +kernel
theorem tyX5_ok : ∀ k, k < 8 → parseFieldDescriptor (TX5 k).2.2.1 = some (tyX5 k) := by decide +kernel
abbrev cX5_init : ByteArray := prog_7_method_1_code
def yX5_init : MethodName := ⟨RX5, "<init>", "()V"⟩
abbrev cX5_useSeed : ByteArray := prog_7_method_2_code
def yX5_useSeed : MethodName := ⟨RX5, "useSeed", "()V"⟩
abbrev cX5_f : ByteArray := prog_7_method_3_code
def yX5_f : MethodName := ⟨RX5, "f", "([BII[BI)V"⟩
abbrev cX5_randomize : ByteArray := prog_7_method_4_code
def yX5_randomize : MethodName := ⟨RX5, "randomize", "([BI[BI[B)V"⟩
abbrev cX5_digest : ByteArray := prog_7_method_5_code
def yX5_digest : MethodName := ⟨RX5, "digest", "([B[BI[BI)V"⟩
abbrev cX5_messageHash : ByteArray := prog_7_method_6_code
def yX5_messageHash : MethodName := ⟨RX5, "messageHash", "()LHashTreeSigner$Sha2;"⟩
abbrev cX5_startKeyed : ByteArray := prog_7_method_7_code
def yX5_startKeyed : MethodName := ⟨RX5, "startKeyed", "(LHashTreeSigner$Sha2;I)V"⟩
def RX6 : String := "HashTreeSigner$Sha512"
def TX6 : u_T := fun k => match k with
  | 0 => ("HashTreeSigner$Sha2", "blockBytes", "I", true)
  | 1 => ("HashTreeSigner$Sha2", "block", "[B", true)
  | 2 => ("HashTreeSigner$Sha2", "state", "[J", true)
  | 3 => ("HashTreeSigner$Sha2", "wordShift", "I", true)
  | 4 => ("HashTreeSigner$Sha2", "kept", "[J", true)
  | 5 => ("HashTreeSigner$Sha2", "fill", "I", false)
  | 6 => ("HashTreeSigner$Sha2", "total", "J", false)
  | _ => ("HashTreeSigner$Sha512", "w", "[J", true)
def tyX6 : Nat → FieldType := fun k => match k with
  | 0 => .int
  | 1 => .array .byte
  | 2 => .array .long
  | 3 => .int
  | 4 => .array .long
  | 5 => .int
  | 6 => .long
  | _ => .array .long
abbrev wsX60 : List Cond := u_ws RX6 TX6 8
theorem nmX6 : ∀ a, a < 8 → ∀ b, b < 8 → a ≠ b → (TX6 a).2.1 ≠ (TX6 b).2.1 := by decide +kernel
theorem tyX6_ok : ∀ k, k < 8 → parseFieldDescriptor (TX6 k).2.2.1 = some (tyX6 k) := by decide +kernel
abbrev cX6_init : ByteArray := prog_8_method_1_code
def yX6_init : MethodName := ⟨RX6, "<init>", "()V"⟩
abbrev cX6_compress : ByteArray := prog_8_method_2_code
def yX6_compress : MethodName := ⟨RX6, "compress", "()V"⟩
def RX7 : String := "HashTreeSigner$ShakeFamily"
def TX7 : u_T := fun k => match k with
  | 0 => ("HashTreeSigner$Family", "address", "LHashTreeSigner$Address;", true)
  | 1 => ("HashTreeSigner$Family", "key", "[B", true)
  | 2 => ("HashTreeSigner$Family", "n", "I", false)
  | _ => ("HashTreeSigner$ShakeFamily", "sponge", "LHashTreeSigner$Sponge;", true)
def tyX7 : Nat → FieldType := fun k => match k with
  | 0 => .object "HashTreeSigner$Address"
  | 1 => .array .byte
  | 2 => .int
  | _ => .object "HashTreeSigner$Sponge"
abbrev wsX70 : List Cond := u_ws RX7 TX7 4
theorem nmX7 : ∀ a, a < 4 → ∀ b, b < 4 → a ≠ b → (TX7 a).2.1 ≠ (TX7 b).2.1 := by decide +kernel
theorem tyX7_ok : ∀ k, k < 4 → parseFieldDescriptor (TX7 k).2.2.1 = some (tyX7 k) := by decide +kernel
abbrev cX7_init : ByteArray := prog_9_method_1_code
def yX7_init : MethodName := ⟨RX7, "<init>", "()V"⟩
abbrev cX7_useSeed : ByteArray := prog_9_method_2_code
def yX7_useSeed : MethodName := ⟨RX7, "useSeed", "()V"⟩
abbrev cX7_f : ByteArray := prog_9_method_3_code
def yX7_f : MethodName := ⟨RX7, "f", "([BII[BI)V"⟩
abbrev cX7_randomize : ByteArray := prog_9_method_4_code
def yX7_randomize : MethodName := ⟨RX7, "randomize", "([BI[BI[B)V"⟩
abbrev cX7_digest : ByteArray := prog_9_method_5_code
def yX7_digest : MethodName := ⟨RX7, "digest", "([B[BI[BI)V"⟩
def RX8 : String := "HashTreeSigner$Sizes"
def TX8 : u_T := fun k => match k with
  | _ => ("", "", "", false)
def tyX8 : Nat → FieldType := fun k => match k with
  | _ => .int
abbrev wsX80 : List Cond := u_ws RX8 TX8 0
theorem nmX8 : ∀ a, a < 0 → ∀ b, b < 0 → a ≠ b → (TX8 a).2.1 ≠ (TX8 b).2.1 := by decide +kernel
theorem tyX8_ok : ∀ k, k < 0 → parseFieldDescriptor (TX8 k).2.2.1 = some (tyX8 k) := by decide +kernel
def RX9 : String := "HashTreeSigner$Sponge"
def TX9 : u_T := fun k => match k with
  | 0 => ("HashTreeSigner$Sponge", "lanes", "[J", true)
  | 1 => ("HashTreeSigner$Sponge", "mixed", "[J", true)
  | _ => ("HashTreeSigner$Sponge", "fill", "I", false)
def tyX9 : Nat → FieldType := fun k => match k with
  | 0 => .array .long
  | 1 => .array .long
  | _ => .int
abbrev wsX90 : List Cond := u_ws RX9 TX9 3
theorem nmX9 : ∀ a, a < 3 → ∀ b, b < 3 → a ≠ b → (TX9 a).2.1 ≠ (TX9 b).2.1 := by decide +kernel
theorem tyX9_ok : ∀ k, k < 3 → parseFieldDescriptor (TX9 k).2.2.1 = some (tyX9 k) := by decide +kernel
abbrev cX9_init : ByteArray := prog_11_method_1_code
def yX9_init : MethodName := ⟨RX9, "<init>", "()V"⟩
abbrev cX9_start : ByteArray := prog_11_method_2_code
def yX9_start : MethodName := ⟨RX9, "start", "()V"⟩
abbrev cX9_add : ByteArray := prog_11_method_3_code
def yX9_add : MethodName := ⟨RX9, "add", "([BII)V"⟩
abbrev cX9_finish : ByteArray := prog_11_method_4_code
def yX9_finish : MethodName := ⟨RX9, "finish", "([BII)V"⟩
abbrev cX9_permute : ByteArray := prog_11_method_5_code
def yX9_permute : MethodName := ⟨RX9, "permute", "()V"⟩
def RX10 : String := "HashTreeSigner$Trees"
def TX10 : u_T := fun k => match k with
  | 0 => ("HashTreeSigner$Trees", "x", "[B", true)
  | 1 => ("HashTreeSigner$Trees", "family", "LHashTreeSigner$Family;", true)
  | 2 => ("HashTreeSigner$Trees", "chains", "LHashTreeSigner$Chains;", true)
  | 3 => ("HashTreeSigner$Trees", "digest", "[B", true)
  | 4 => ("HashTreeSigner$Trees", "roots", "[B", true)
  | 5 => ("HashTreeSigner$Trees", "pairs", "[B", true)
  | 6 => ("HashTreeSigner$Trees", "sizes", "LHashTreeSigner$Sizes;", false)
  | 7 => ("HashTreeSigner$Trees", "n", "I", false)
  | 8 => ("HashTreeSigner$Trees", "tree", "J", false)
  | 9 => ("HashTreeSigner$Trees", "leaf", "I", false)
  | 10 => ("HashTreeSigner$Trees", "type", "I", false)
  | _ => ("HashTreeSigner$Trees", "pair", "I", false)
def tyX10 : Nat → FieldType := fun k => match k with
  | 0 => .array .byte
  | 1 => .object "HashTreeSigner$Family"
  | 2 => .object "HashTreeSigner$Chains"
  | 3 => .array .byte
  | 4 => .array .byte
  | 5 => .array .byte
  | 6 => .object "HashTreeSigner$Sizes"
  | 7 => .int
  | 8 => .long
  | 9 => .int
  | 10 => .int
  | _ => .int
abbrev wsX100 : List Cond := u_ws RX10 TX10 12
theorem nmX10 : ∀ a, a < 12 → ∀ b, b < 12 → a ≠ b → (TX10 a).2.1 ≠ (TX10 b).2.1 := by decide +kernel
theorem tyX10_ok : ∀ k, k < 12 → parseFieldDescriptor (TX10 k).2.2.1 = some (tyX10 k) := by decide +kernel
abbrev cX10_init : ByteArray := prog_12_method_1_code
def yX10_init : MethodName := ⟨RX10, "<init>", "(LHashTreeSigner$Family;)V"⟩
abbrev cX10_open : ByteArray := prog_12_method_2_code
def yX10_open : MethodName := ⟨RX10, "open", "(LHashTreeSigner$Sizes;[BII)V"⟩
abbrev cX10_randomize : ByteArray := prog_12_method_3_code
def yX10_randomize : MethodName := ⟨RX10, "randomize", "([BI[BI[B)V"⟩
abbrev cX10_choose : ByteArray := prog_12_method_4_code
def yX10_choose : MethodName := ⟨RX10, "choose", "([B[BI)V"⟩
abbrev cX10_enterLayer : ByteArray := prog_12_method_5_code
def yX10_enterLayer : MethodName := ⟨RX10, "enterLayer", "(IJ)V"⟩
abbrev cX10_signForest : ByteArray := prog_12_method_6_code
def yX10_signForest : MethodName := ⟨RX10, "signForest", "([BI)I"⟩
abbrev cX10_forestRoot : ByteArray := prog_12_method_7_code
def yX10_forestRoot : MethodName := ⟨RX10, "forestRoot", "([BI)I"⟩
abbrev cX10_signLayer : ByteArray := prog_12_method_8_code
def yX10_signLayer : MethodName := ⟨RX10, "signLayer", "(I[BI)I"⟩
abbrev cX10_layerRoot : ByteArray := prog_12_method_9_code
def yX10_layerRoot : MethodName := ⟨RX10, "layerRoot", "(I[BI)I"⟩
abbrev cX10_node : ByteArray := prog_12_method_10_code
def yX10_node : MethodName := ⟨RX10, "node", "(II[BI)V"⟩
abbrev cX10_climb : ByteArray := prog_12_method_11_code
def yX10_climb : MethodName := ⟨RX10, "climb", "(II[BI[BI)V"⟩
abbrev cX10_forestLeaf : ByteArray := prog_12_method_12_code
def yX10_forestLeaf : MethodName := ⟨RX10, "forestLeaf", "(II)V"⟩
abbrev cX10_enterForest : ByteArray := prog_12_method_13_code
def yX10_enterForest : MethodName := ⟨RX10, "enterForest", "()V"⟩
abbrev cX10_chosen : ByteArray := prog_12_method_14_code
def yX10_chosen : MethodName := ⟨RX10, "chosen", "(I)I"⟩
abbrev cX10_number : ByteArray := prog_12_method_15_code
def yX10_number : MethodName := ⟨RX10, "number", "(II)J"⟩
def RX11 : String := "HashTreeSigner"
def TX11 : u_T := fun k => match k with
  | 0 => ("HashTreeSigner", "slots", "[[B", true)
  | 1 => ("HashTreeSigner", "lengths", "[I", true)
  | 2 => ("HashTreeSigner", "tape", "[B", true)
  | 3 => ("HashTreeSigner", "tapeLength", "I", false)
  | 4 => ("HashTreeSigner", "signed", "[B", true)
  | 5 => ("HashTreeSigner", "signedLength", "I", false)
  | 6 => ("HashTreeSigner", "shakeTrees", "LHashTreeSigner$Trees;", true)
  | _ => ("HashTreeSigner", "sha2Trees", "LHashTreeSigner$Trees;", true)
def tyX11 : Nat → FieldType := fun k => match k with
  | 0 => .array (.array .byte)
  | 1 => .array .int
  | 2 => .array .byte
  | 3 => .int
  | 4 => .array .byte
  | 5 => .int
  | 6 => .object "HashTreeSigner$Trees"
  | _ => .object "HashTreeSigner$Trees"
abbrev wsX110 : List Cond := u_ws RX11 TX11 8
theorem nmX11 : ∀ a, a < 8 → ∀ b, b < 8 → a ≠ b → (TX11 a).2.1 ≠ (TX11 b).2.1 := by decide +kernel
theorem tyX11_ok : ∀ k, k < 8 → parseFieldDescriptor (TX11 k).2.2.1 = some (tyX11 k) := by decide +kernel
abbrev cX11_init : ByteArray := prog_1_method_1_code
def yX11_init : MethodName := ⟨RX11, "<init>", "()V"⟩
abbrev cX11_feed : ByteArray := prog_1_method_2_code
def yX11_feed : MethodName := ⟨RX11, "feed", "(IIIII)I"⟩
abbrev cX11_end : ByteArray := prog_1_method_3_code
def yX11_end : MethodName := ⟨RX11, "end", "(II)I"⟩
abbrev cX11_copy : ByteArray := prog_1_method_4_code
def yX11_copy : MethodName := ⟨RX11, "copy", "(II)I"⟩
abbrev cX11_resize : ByteArray := prog_1_method_5_code
def yX11_resize : MethodName := ⟨RX11, "resize", "(II)I"⟩
abbrev cX11_alter : ByteArray := prog_1_method_6_code
def yX11_alter : MethodName := ⟨RX11, "alter", "(III)I"⟩
abbrev cX11_length : ByteArray := prog_1_method_7_code
def yX11_length : MethodName := ⟨RX11, "length", "(I)I"⟩
abbrev cX11_word : ByteArray := prog_1_method_8_code
def yX11_word : MethodName := ⟨RX11, "word", "(II)J"⟩
abbrev cX11_same : ByteArray := prog_1_method_9_code
def yX11_same : MethodName := ⟨RX11, "same", "(II)Z"⟩
abbrev cX11_slhKeys : ByteArray := prog_1_method_10_code
def yX11_slhKeys : MethodName := ⟨RX11, "slhKeys", "(I)I"⟩
abbrev cX11_slhSign : ByteArray := prog_1_method_11_code
def yX11_slhSign : MethodName := ⟨RX11, "slhSign", "(II)I"⟩
abbrev cX11_slhVerify : ByteArray := prog_1_method_12_code
def yX11_slhVerify : MethodName := ⟨RX11, "slhVerify", "(II)Z"⟩
abbrev cX11_slhNode : ByteArray := prog_1_method_13_code
def yX11_slhNode : MethodName := ⟨RX11, "slhNode", "(IIIII)I"⟩
abbrev cX11_checkSlot : ByteArray := prog_1_method_14_code
def yX11_checkSlot : MethodName := ⟨RX11, "checkSlot", "(I)V"⟩
abbrev cX11_checkCount : ByteArray := prog_1_method_15_code
def yX11_checkCount : MethodName := ⟨RX11, "checkCount", "(I)V"⟩
abbrev cX11_checkSet : ByteArray := prog_1_method_16_code
def yX11_checkSet : MethodName := ⟨RX11, "checkSet", "(I)V"⟩
abbrev cX11_checkHow : ByteArray := prog_1_method_17_code
def yX11_checkHow : MethodName := ⟨RX11, "checkHow", "(I)V"⟩
abbrev cX11_checkPlace : ByteArray := prog_1_method_18_code
def yX11_checkPlace : MethodName := ⟨RX11, "checkPlace", "(II)V"⟩
abbrev cX11_checkContext : ByteArray := prog_1_method_19_code
def yX11_checkContext : MethodName := ⟨RX11, "checkContext", "(I)V"⟩
abbrev cX11_checkSecret : ByteArray := prog_1_method_20_code
def yX11_checkSecret : MethodName := ⟨RX11, "checkSecret", "(LHashTreeSigner$Sizes;)V"⟩
abbrev cX11_sizesOf : ByteArray := prog_1_method_21_code
def yX11_sizesOf : MethodName := ⟨RX11, "sizesOf", "(I)LHashTreeSigner$Sizes;"⟩
abbrev cX11_treesOf : ByteArray := prog_1_method_22_code
def yX11_treesOf : MethodName := ⟨RX11, "treesOf", "(I)LHashTreeSigner$Trees;"⟩
abbrev cX11_putOnTape : ByteArray := prog_1_method_23_code
def yX11_putOnTape : MethodName := ⟨RX11, "putOnTape", "(I)V"⟩
abbrev cX11_setSlot : ByteArray := prog_1_method_24_code
def yX11_setSlot : MethodName := ⟨RX11, "setSlot", "(I[BI)V"⟩
abbrev cX11_laySigned : ByteArray := prog_1_method_25_code
def yX11_laySigned : MethodName := ⟨RX11, "laySigned", "(I)V"⟩
abbrev cX11_alike : ByteArray := prog_1_method_26_code
def yX11_alike : MethodName := ⟨RX11, "alike", "([B[BII)Z"⟩
def RX12 : String := "HashTreeSignerModel"
def TX12 : u_T := fun k => match k with
  | 0 => ("HashTreeSignerModel", "tape", "[B", true)
  | 1 => ("HashTreeSignerModel", "slot", "[[B", true)
  | 2 => ("HashTreeSignerModel", "length", "[I", true)
  | 3 => ("HashTreeSignerModel", "taped", "I", false)
  | 4 => ("HashTreeSignerModel", "code", "I", false)
  | 5 => ("HashTreeSignerModel", "roots", "[J", true)
  | 6 => ("HashTreeSignerModel", "cubes", "[J", true)
  | 7 => ("HashTreeSignerModel", "start224", "[J", true)
  | 8 => ("HashTreeSignerModel", "start256", "[J", true)
  | 9 => ("HashTreeSignerModel", "limbs", "[J", true)
  | 10 => ("HashTreeSignerModel", "product", "[J", true)
  | 11 => ("HashTreeSignerModel", "turns", "[I", true)
  | 12 => ("HashTreeSignerModel", "round", "[J", true)
  | 13 => ("HashTreeSignerModel", "state", "[J", true)
  | 14 => ("HashTreeSignerModel", "other", "[J", true)
  | 15 => ("HashTreeSignerModel", "column", "[J", true)
  | 16 => ("HashTreeSignerModel", "words", "[J", true)
  | 17 => ("HashTreeSignerModel", "block", "[B", true)
  | 18 => ("HashTreeSignerModel", "kind", "I", false)
  | 19 => ("HashTreeSignerModel", "rate", "I", false)
  | 20 => ("HashTreeSignerModel", "filled", "I", false)
  | 21 => ("HashTreeSignerModel", "total", "J", false)
  | 22 => ("HashTreeSignerModel", "hashKey", "[B", true)
  | 23 => ("HashTreeSignerModel", "inner", "[B", true)
  | 24 => ("HashTreeSignerModel", "signed", "[B", true)
  | 25 => ("HashTreeSignerModel", "hash", "[B", true)
  | 26 => ("HashTreeSignerModel", "buffer", "[B", true)
  | 27 => ("HashTreeSignerModel", "packet", "[B", true)
  | 28 => ("HashTreeSignerModel", "address", "[B", true)
  | 29 => ("HashTreeSignerModel", "pairs", "[[B", true)
  | 30 => ("HashTreeSignerModel", "ends", "[B", true)
  | 31 => ("HashTreeSignerModel", "leaves", "[B", true)
  | 32 => ("HashTreeSignerModel", "secret", "[B", true)
  | 33 => ("HashTreeSignerModel", "walk", "[B", true)
  | 34 => ("HashTreeSignerModel", "long1", "[B", true)
  | 35 => ("HashTreeSignerModel", "told", "[B", true)
  | 36 => ("HashTreeSignerModel", "digits", "[I", true)
  | 37 => ("HashTreeSignerModel", "publicSeed", "[B", true)
  | 38 => ("HashTreeSignerModel", "secretSeed", "[B", true)
  | 39 => ("HashTreeSignerModel", "turn", "[B", true)
  | 40 => ("HashTreeSignerModel", "rootNow", "[B", true)
  | 41 => ("HashTreeSignerModel", "n", "I", false)
  | 42 => ("HashTreeSignerModel", "h", "I", false)
  | 43 => ("HashTreeSignerModel", "layers", "I", false)
  | 44 => ("HashTreeSignerModel", "height", "I", false)
  | 45 => ("HashTreeSignerModel", "a", "I", false)
  | 46 => ("HashTreeSignerModel", "trees", "I", false)
  | 47 => ("HashTreeSignerModel", "chains", "I", false)
  | _ => ("HashTreeSignerModel", "shake", "Z", false)
def tyX12 : Nat → FieldType := fun k => match k with
  | 0 => .array .byte
  | 1 => .array (.array .byte)
  | 2 => .array .int
  | 3 => .int
  | 4 => .int
  | 5 => .array .long
  | 6 => .array .long
  | 7 => .array .long
  | 8 => .array .long
  | 9 => .array .long
  | 10 => .array .long
  | 11 => .array .int
  | 12 => .array .long
  | 13 => .array .long
  | 14 => .array .long
  | 15 => .array .long
  | 16 => .array .long
  | 17 => .array .byte
  | 18 => .int
  | 19 => .int
  | 20 => .int
  | 21 => .long
  | 22 => .array .byte
  | 23 => .array .byte
  | 24 => .array .byte
  | 25 => .array .byte
  | 26 => .array .byte
  | 27 => .array .byte
  | 28 => .array .byte
  | 29 => .array (.array .byte)
  | 30 => .array .byte
  | 31 => .array .byte
  | 32 => .array .byte
  | 33 => .array .byte
  | 34 => .array .byte
  | 35 => .array .byte
  | 36 => .array .int
  | 37 => .array .byte
  | 38 => .array .byte
  | 39 => .array .byte
  | 40 => .array .byte
  | 41 => .int
  | 42 => .int
  | 43 => .int
  | 44 => .int
  | 45 => .int
  | 46 => .int
  | 47 => .int
  | _ => .boolean
abbrev wsX120 : List Cond := u_ws RX12 TX12 49
theorem nmX12 : ∀ a, a < 49 → ∀ b, b < 49 → a ≠ b → (TX12 a).2.1 ≠ (TX12 b).2.1 := by decide +kernel
theorem tyX12_ok : ∀ k, k < 49 → parseFieldDescriptor (TX12 k).2.2.1 = some (tyX12 k) := by decide +kernel
abbrev cX12_init : ByteArray := prog_14_method_1_code
def yX12_init : MethodName := ⟨RX12, "<init>", "()V"⟩
abbrev cX12_thrown : ByteArray := prog_14_method_2_code
def yX12_thrown : MethodName := ⟨RX12, "thrown", "()I"⟩
abbrev cX12_in : ByteArray := prog_14_method_3_code
def yX12_in : MethodName := ⟨RX12, "in", "(III)Z"⟩
abbrev cX12_good : ByteArray := prog_14_method_4_code
def yX12_good : MethodName := ⟨RX12, "good", "(ZI)Z"⟩
abbrev cX12_feed : ByteArray := prog_14_method_5_code
def yX12_feed : MethodName := ⟨RX12, "feed", "(IIIII)I"⟩
abbrev cX12_word : ByteArray := prog_14_method_6_code
def yX12_word : MethodName := ⟨RX12, "word", "(I)V"⟩
abbrev cX12_end : ByteArray := prog_14_method_7_code
def yX12_end : MethodName := ⟨RX12, "end", "(II)I"⟩
abbrev cX12_copy : ByteArray := prog_14_method_8_code
def yX12_copy : MethodName := ⟨RX12, "copy", "(II)I"⟩
abbrev cX12_resize : ByteArray := prog_14_method_9_code
def yX12_resize : MethodName := ⟨RX12, "resize", "(II)I"⟩
abbrev cX12_alter : ByteArray := prog_14_method_10_code
def yX12_alter : MethodName := ⟨RX12, "alter", "(III)I"⟩
abbrev cX12_length : ByteArray := prog_14_method_11_code
def yX12_length : MethodName := ⟨RX12, "length", "(I)I"⟩
abbrev cX12_word_ : ByteArray := prog_14_method_12_code
def yX12_word_ : MethodName := ⟨RX12, "word", "(II)J"⟩
abbrev cX12_same : ByteArray := prog_14_method_13_code
def yX12_same : MethodName := ⟨RX12, "same", "(II)Z"⟩
abbrev cX12_move : ByteArray := prog_14_method_14_code
def yX12_move : MethodName := ⟨RX12, "move", "([BI[BII)V"⟩
abbrev cX12_alike : ByteArray := prog_14_method_15_code
def yX12_alike : MethodName := ⟨RX12, "alike", "([BI[BII)Z"⟩
abbrev cX12_prime : ByteArray := prog_14_method_16_code
def yX12_prime : MethodName := ⟨RX12, "prime", "(I)Z"⟩
abbrev cX12_above : ByteArray := prog_14_method_17_code
def yX12_above : MethodName := ⟨RX12, "above", "(IJII)Z"⟩
abbrev cX12_root : ByteArray := prog_14_method_18_code
def yX12_root : MethodName := ⟨RX12, "root", "(II)J"⟩
abbrev cX12_constants : ByteArray := prog_14_method_19_code
def yX12_constants : MethodName := ⟨RX12, "constants", "()V"⟩
abbrev cX12_bit : ByteArray := prog_14_method_20_code
def yX12_bit : MethodName := ⟨RX12, "bit", "(I)I"⟩
abbrev cX12_named : ByteArray := prog_14_method_21_code
def yX12_named : MethodName := ⟨RX12, "named", "([JII)V"⟩
abbrev cX12_sponge : ByteArray := prog_14_method_22_code
def yX12_sponge : MethodName := ⟨RX12, "sponge", "()Z"⟩
abbrev cX12_blockOf : ByteArray := prog_14_method_23_code
def yX12_blockOf : MethodName := ⟨RX12, "blockOf", "(I)I"⟩
abbrev cX12_digestOf : ByteArray := prog_14_method_24_code
def yX12_digestOf : MethodName := ⟨RX12, "digestOf", "(I)I"⟩
abbrev cX12_begin : ByteArray := prog_14_method_25_code
def yX12_begin : MethodName := ⟨RX12, "begin", "(I)V"⟩
abbrev cX12_flip : ByteArray := prog_14_method_26_code
def yX12_flip : MethodName := ⟨RX12, "flip", "(II)V"⟩
abbrev cX12_put : ByteArray := prog_14_method_27_code
def yX12_put : MethodName := ⟨RX12, "put", "(I)V"⟩
abbrev cX12_put_ : ByteArray := prog_14_method_28_code
def yX12_put_ : MethodName := ⟨RX12, "put", "([BII)V"⟩
abbrev cX12_permute : ByteArray := prog_14_method_29_code
def yX12_permute : MethodName := ⟨RX12, "permute", "()V"⟩
abbrev cX12_left : ByteArray := prog_14_method_30_code
def yX12_left : MethodName := ⟨RX12, "left", "(JI)J"⟩
abbrev cX12_right : ByteArray := prog_14_method_31_code
def yX12_right : MethodName := ⟨RX12, "right", "(JI)J"⟩
abbrev cX12_turn : ByteArray := prog_14_method_32_code
def yX12_turn : MethodName := ⟨RX12, "turn", "(II)I"⟩
abbrev cX12_compress64 : ByteArray := prog_14_method_33_code
def yX12_compress64 : MethodName := ⟨RX12, "compress64", "()V"⟩
abbrev cX12_compress32 : ByteArray := prog_14_method_34_code
def yX12_compress32 : MethodName := ⟨RX12, "compress32", "()V"⟩
abbrev cX12_finish : ByteArray := prog_14_method_35_code
def yX12_finish : MethodName := ⟨RX12, "finish", "()V"⟩
abbrev cX12_squeeze : ByteArray := prog_14_method_36_code
def yX12_squeeze : MethodName := ⟨RX12, "squeeze", "()I"⟩
abbrev cX12_give : ByteArray := prog_14_method_37_code
def yX12_give : MethodName := ⟨RX12, "give", "([BII)V"⟩
abbrev cX12_startMac : ByteArray := prog_14_method_38_code
def yX12_startMac : MethodName := ⟨RX12, "startMac", "(I[BII)V"⟩
abbrev cX12_endMac : ByteArray := prog_14_method_39_code
def yX12_endMac : MethodName := ⟨RX12, "endMac", "(I[BII)V"⟩
abbrev cX12_mask : ByteArray := prog_14_method_40_code
def yX12_mask : MethodName := ⟨RX12, "mask", "(I[BI[BII)V"⟩
abbrev cX12_before : ByteArray := prog_14_method_41_code
def yX12_before : MethodName := ⟨RX12, "before", "(I)V"⟩
abbrev cX12_putSigned : ByteArray := prog_14_method_42_code
def yX12_putSigned : MethodName := ⟨RX12, "putSigned", "(I)V"⟩
abbrev cX12_context : ByteArray := prog_14_method_43_code
def yX12_context : MethodName := ⟨RX12, "context", "(I)Z"⟩
abbrev cX12_slh : ByteArray := prog_14_method_44_code
def yX12_slh : MethodName := ⟨RX12, "slh", "(I)V"⟩
abbrev cX12_place : ByteArray := prog_14_method_45_code
def yX12_place : MethodName := ⟨RX12, "place", "(IJ)V"⟩
abbrev cX12_type : ByteArray := prog_14_method_46_code
def yX12_type : MethodName := ⟨RX12, "type", "(IIII)V"⟩
abbrev cX12_hashed : ByteArray := prog_14_method_47_code
def yX12_hashed : MethodName := ⟨RX12, "hashed", "([BII[BI)V"⟩
abbrev cX12_pseudo : ByteArray := prog_14_method_48_code
def yX12_pseudo : MethodName := ⟨RX12, "pseudo", "([BI)V"⟩
abbrev cX12_chain : ByteArray := prog_14_method_49_code
def yX12_chain : MethodName := ⟨RX12, "chain", "(IIII[BI)V"⟩
abbrev cX12_leaf : ByteArray := prog_14_method_50_code
def yX12_leaf : MethodName := ⟨RX12, "leaf", "(I[BI)V"⟩
abbrev cX12_node : ByteArray := prog_14_method_51_code
def yX12_node : MethodName := ⟨RX12, "node", "(II[BI)V"⟩
abbrev cX12_digitsOf : ByteArray := prog_14_method_52_code
def yX12_digitsOf : MethodName := ⟨RX12, "digitsOf", "([BI)V"⟩
abbrev cX12_signTree : ByteArray := prog_14_method_53_code
def yX12_signTree : MethodName := ⟨RX12, "signTree", "([BII[BI)V"⟩
abbrev cX12_climb : ByteArray := prog_14_method_54_code
def yX12_climb : MethodName := ⟨RX12, "climb", "(IIII[BI)V"⟩
abbrev cX12_rootOf : ByteArray := prog_14_method_55_code
def yX12_rootOf : MethodName := ⟨RX12, "rootOf", "(I[BI[BI)V"⟩
abbrev cX12_forestNode : ByteArray := prog_14_method_56_code
def yX12_forestNode : MethodName := ⟨RX12, "forestNode", "(III[BI)V"⟩
abbrev cX12_numberOf : ByteArray := prog_14_method_57_code
def yX12_numberOf : MethodName := ⟨RX12, "numberOf", "(I)I"⟩
abbrev cX12_signForest : ByteArray := prog_14_method_58_code
def yX12_signForest : MethodName := ⟨RX12, "signForest", "(I[BI)V"⟩
abbrev cX12_rootOfForest : ByteArray := prog_14_method_59_code
def yX12_rootOfForest : MethodName := ⟨RX12, "rootOfForest", "(I[BI)V"⟩
abbrev cX12_large : ByteArray := prog_14_method_60_code
def yX12_large : MethodName := ⟨RX12, "large", "()I"⟩
abbrev cX12_digestTree : ByteArray := prog_14_method_61_code
def yX12_digestTree : MethodName := ⟨RX12, "digestTree", "([BII)V"⟩
abbrev cX12_treeNumber : ByteArray := prog_14_method_62_code
def yX12_treeNumber : MethodName := ⟨RX12, "treeNumber", "()J"⟩
abbrev cX12_pairNumber : ByteArray := prog_14_method_63_code
def yX12_pairNumber : MethodName := ⟨RX12, "pairNumber", "()I"⟩
abbrev cX12_slhKeys : ByteArray := prog_14_method_64_code
def yX12_slhKeys : MethodName := ⟨RX12, "slhKeys", "(I)I"⟩
abbrev cX12_slhSign : ByteArray := prog_14_method_65_code
def yX12_slhSign : MethodName := ⟨RX12, "slhSign", "(II)I"⟩
abbrev cX12_slhVerify : ByteArray := prog_14_method_66_code
def yX12_slhVerify : MethodName := ⟨RX12, "slhVerify", "(II)Z"⟩
abbrev cX12_slhNode : ByteArray := prog_14_method_67_code
def yX12_slhNode : MethodName := ⟨RX12, "slhNode", "(IIIII)I"⟩
def RJ5 : String := "java/lang/AbstractStringBuilder"
def TJ5 : u_T := fun k => match k with
  | _ => ("", "", "", false)
def tyJ5 : Nat → FieldType := fun k => match k with
  | _ => .int
abbrev wsJ50 : List Cond := u_ws RJ5 TJ5 0
theorem nmJ5 : ∀ a, a < 0 → ∀ b, b < 0 → a ≠ b → (TJ5 a).2.1 ≠ (TJ5 b).2.1 := by decide +kernel
theorem tyJ5_ok : ∀ k, k < 0 → parseFieldDescriptor (TJ5 k).2.2.1 = some (tyJ5 k) := by decide +kernel
abbrev cJ5_init_d00df : ByteArray := prog_15_method_2_code
def yJ5_init_d00df : MethodName := ⟨RJ5, "<init>", "(I)V"⟩
abbrev cJ5_length_8abf5 : ByteArray := prog_15_method_6_code
def yJ5_length_8abf5 : MethodName := ⟨RJ5, "length", "()I"⟩
abbrev cJ5_ensureCapacityInternal_d00df : ByteArray := prog_15_method_9_code
def yJ5_ensureCapacityInternal_d00df : MethodName := ⟨RJ5, "ensureCapacityInternal", "(I)V"⟩
abbrev cJ5_newCapacity_0f7a4 : ByteArray := prog_15_method_10_code
def yJ5_newCapacity_0f7a4 : MethodName := ⟨RJ5, "newCapacity", "(I)I"⟩
abbrev cJ5_inflate_da8c8 : ByteArray := prog_15_method_11_code
def yJ5_inflate_da8c8 : MethodName := ⟨RJ5, "inflate", "()V"⟩
abbrev cJ5_append_cf1ce : ByteArray := prog_15_method_22_code
def yJ5_append_cf1ce : MethodName := ⟨RJ5, "append", "(Ljava/lang/String;)Ljava/lang/AbstractStringBuilder;"⟩
abbrev cJ5_appendNull_278bc : ByteArray := prog_15_method_26_code
def yJ5_appendNull_278bc : MethodName := ⟨RJ5, "appendNull", "()Ljava/lang/AbstractStringBuilder;"⟩
abbrev cJ5_append_c97b9 : ByteArray := prog_15_method_32_code
def yJ5_append_c97b9 : MethodName := ⟨RJ5, "append", "(I)Ljava/lang/AbstractStringBuilder;"⟩
abbrev cJ5_getValue_6d5f1 : ByteArray := prog_15_method_64_code
def yJ5_getValue_6d5f1 : MethodName := ⟨RJ5, "getValue", "()[B"⟩
abbrev cJ5_isLatin1_aae02 : ByteArray := prog_15_method_68_code
def yJ5_isLatin1_aae02 : MethodName := ⟨RJ5, "isLatin1", "()Z"⟩
abbrev cJ5_inflateIfNeededFor_a7421 : ByteArray := prog_15_method_71_code
def yJ5_inflateIfNeededFor_a7421 : MethodName := ⟨RJ5, "inflateIfNeededFor", "(Ljava/lang/String;)V"⟩
abbrev cJ5_putStringAt_47b60 : ByteArray := prog_15_method_73_code
def yJ5_putStringAt_47b60 : MethodName := ⟨RJ5, "putStringAt", "(ILjava/lang/String;)V"⟩
def RJx00060 : String := "java/lang/ArrayIndexOutOfBoundsException"
def TJx00060 : u_T := fun k => match k with
  | 0 => ("java/lang/Throwable", "backtrace", "Ljava/lang/Object;", false)
  | 1 => ("java/lang/Throwable", "detailMessage", "Ljava/lang/String;", false)
  | 2 => ("java/lang/Throwable", "cause", "Ljava/lang/Throwable;", false)
  | 3 => ("java/lang/Throwable", "stackTrace", "[Ljava/lang/StackTraceElement;", false)
  | 4 => ("java/lang/Throwable", "depth", "I", false)
  | _ => ("java/lang/Throwable", "suppressedExceptions", "Ljava/util/List;", false)
def tyJx00060 : Nat → FieldType := fun k => match k with
  | 0 => .object "java/lang/Object"
  | 1 => .object "java/lang/String"
  | 2 => .object "java/lang/Throwable"
  | 3 => .array (.object "java/lang/StackTraceElement")
  | 4 => .int
  | _ => .object "java/util/List"
abbrev wsJx000600 : List Cond := u_ws RJx00060 TJx00060 6
theorem nmJx00060 : ∀ a, a < 6 → ∀ b, b < 6 → a ≠ b → (TJx00060 a).2.1 ≠ (TJx00060 b).2.1 := by decide +kernel
theorem tyJx00060_ok : ∀ k, k < 6 → parseFieldDescriptor (TJx00060 k).2.2.1 = some (tyJx00060 k) := by decide +kernel
abbrev cJx00060_init_d00df : ByteArray := prog_16_method_3_code
def yJx00060_init_d00df : MethodName := ⟨RJx00060, "<init>", "(I)V"⟩
def RJx8e188 : String := "java/lang/Cloneable"
def TJx8e188 : u_T := fun k => match k with
  | _ => ("", "", "", false)
def tyJx8e188 : Nat → FieldType := fun k => match k with
  | _ => .int
abbrev wsJx8e1880 : List Cond := u_ws RJx8e188 TJx8e188 0
theorem nmJx8e188 : ∀ a, a < 0 → ∀ b, b < 0 → a ≠ b → (TJx8e188 a).2.1 ≠ (TJx8e188 b).2.1 := by decide +kernel
theorem tyJx8e188_ok : ∀ k, k < 0 → parseFieldDescriptor (TJx8e188 k).2.2.1 = some (tyJx8e188 k) := by decide +kernel
def RJx29ce0 : String := "java/lang/Enum"
def TJx29ce0 : u_T := fun k => match k with
  | _ => ("", "", "", false)
def tyJx29ce0 : Nat → FieldType := fun k => match k with
  | _ => .int
abbrev wsJx29ce00 : List Cond := u_ws RJx29ce0 TJx29ce0 0
theorem nmJx29ce0 : ∀ a, a < 0 → ∀ b, b < 0 → a ≠ b → (TJx29ce0 a).2.1 ≠ (TJx29ce0 b).2.1 := by decide +kernel
theorem tyJx29ce0_ok : ∀ k, k < 0 → parseFieldDescriptor (TJx29ce0 k).2.2.1 = some (tyJx29ce0 k) := by decide +kernel
def RJ6 : String := "java/lang/Integer"
def TJ6 : u_T := fun k => match k with
  | _ => ("", "", "", false)
def tyJ6 : Nat → FieldType := fun k => match k with
  | _ => .int
abbrev wsJ60 : List Cond := u_ws RJ6 TJ6 0
theorem nmJ6 : ∀ a, a < 0 → ∀ b, b < 0 → a ≠ b → (TJ6 a).2.1 ≠ (TJ6 b).2.1 := by decide +kernel
theorem tyJ6_ok : ∀ k, k < 0 → parseFieldDescriptor (TJ6 k).2.2.1 = some (tyJ6 k) := by decide +kernel
abbrev cJ6_getChars_ba4f3 : ByteArray := prog_23_method_12_code
def yJ6_getChars_ba4f3 : MethodName := ⟨RJ6, "getChars", "(II[B)I"⟩
abbrev cJ6_stringSize_0f7a4 : ByteArray := prog_23_method_13_code
def yJ6_stringSize_0f7a4 : MethodName := ⟨RJ6, "stringSize", "(I)I"⟩
abbrev cJ6_rotateRight_7cf53 : ByteArray := prog_23_method_51_code
def yJ6_rotateRight_7cf53 : MethodName := ⟨RJ6, "rotateRight", "(II)I"⟩
def RJ13 : String := "java/lang/Long"
def TJ13 : u_T := fun k => match k with
  | _ => ("", "", "", false)
def tyJ13 : Nat → FieldType := fun k => match k with
  | _ => .int
abbrev wsJ130 : List Cond := u_ws RJ13 TJ13 0
theorem nmJ13 : ∀ a, a < 0 → ∀ b, b < 0 → a ≠ b → (TJ13 a).2.1 ≠ (TJ13 b).2.1 := by decide +kernel
theorem tyJ13_ok : ∀ k, k < 0 → parseFieldDescriptor (TJ13 k).2.2.1 = some (tyJ13 k) := by decide +kernel
abbrev cJ13_rotateLeft_b2ac5 : ByteArray := prog_24_method_51_code
def yJ13_rotateLeft_b2ac5 : MethodName := ⟨RJ13, "rotateLeft", "(JI)J"⟩
abbrev cJ13_rotateRight_b2ac5 : ByteArray := prog_24_method_52_code
def yJ13_rotateRight_b2ac5 : MethodName := ⟨RJ13, "rotateRight", "(JI)J"⟩
def RJ9 : String := "java/lang/Math"
def TJ9 : u_T := fun k => match k with
  | _ => ("", "", "", false)
def tyJ9 : Nat → FieldType := fun k => match k with
  | _ => .int
abbrev wsJ90 : List Cond := u_ws RJ9 TJ9 0
theorem nmJ9 : ∀ a, a < 0 → ∀ b, b < 0 → a ≠ b → (TJ9 a).2.1 ≠ (TJ9 b).2.1 := by decide +kernel
theorem tyJ9_ok : ∀ k, k < 0 → parseFieldDescriptor (TJ9 k).2.2.1 = some (tyJ9 k) := by decide +kernel
abbrev cJ9_max_7cf53 : ByteArray := prog_25_method_65_code
def yJ9_max_7cf53 : MethodName := ⟨RJ9, "max", "(II)I"⟩
abbrev cJ9_min_7cf53 : ByteArray := prog_25_method_69_code
def yJ9_min_7cf53 : MethodName := ⟨RJ9, "min", "(II)I"⟩
def RJ0 : String := "java/lang/String"
def TJ0 : u_T := fun k => match k with
  | 0 => ("java/lang/String", "value", "[B", true)
  | 1 => ("java/lang/String", "coder", "B", true)
  | 2 => ("java/lang/String", "hash", "I", false)
  | _ => ("java/lang/String", "hashIsZero", "Z", false)
def tyJ0 : Nat → FieldType := fun k => match k with
  | 0 => .array .byte
  | 1 => .byte
  | 2 => .int
  | _ => .boolean
abbrev wsJ00 : List Cond := u_ws RJ0 TJ0 4
theorem nmJ0 : ∀ a, a < 4 → ∀ b, b < 4 → a ≠ b → (TJ0 a).2.1 ≠ (TJ0 b).2.1 := by decide +kernel
theorem tyJ0_ok : ∀ k, k < 4 → parseFieldDescriptor (TJ0 k).2.2.1 = some (tyJ0 k) := by decide +kernel
abbrev cJ0_init_81219 : ByteArray := prog_27_method_53_code
def yJ0_init_81219 : MethodName := ⟨RJ0, "<init>", "(Ljava/lang/StringBuilder;)V"⟩
abbrev cJ0_length_8abf5 : ByteArray := prog_27_method_54_code
def yJ0_length_8abf5 : MethodName := ⟨RJ0, "length", "()I"⟩
abbrev cJ0_getBytes_840e7 : ByteArray := prog_27_method_147_code
def yJ0_getBytes_840e7 : MethodName := ⟨RJ0, "getBytes", "([BIB)V"⟩
abbrev cJ0_init_db425 : ByteArray := prog_27_method_150_code
def yJ0_init_db425 : MethodName := ⟨RJ0, "<init>", "(Ljava/lang/AbstractStringBuilder;Ljava/lang/Void;)V"⟩
abbrev cJ0_coder_7d493 : ByteArray := prog_27_method_152_code
def yJ0_coder_7d493 : MethodName := ⟨RJ0, "coder", "()B"⟩
abbrev cJ0_checkBoundsOffCount_cabcc : ByteArray := prog_27_method_157_code
def yJ0_checkBoundsOffCount_cabcc : MethodName := ⟨RJ0, "checkBoundsOffCount", "(III)I"⟩
abbrev cJ0_checkBoundsBeginEnd_23922 : ByteArray := prog_27_method_158_code
def yJ0_checkBoundsBeginEnd_23922 : MethodName := ⟨RJ0, "checkBoundsBeginEnd", "(III)V"⟩
def RJ4 : String := "java/lang/StringBuilder"
def TJ4 : u_T := fun k => match k with
  | 0 => ("java/lang/AbstractStringBuilder", "value", "[B", false)
  | 1 => ("java/lang/AbstractStringBuilder", "coder", "B", false)
  | 2 => ("java/lang/AbstractStringBuilder", "maybeLatin1", "Z", false)
  | _ => ("java/lang/AbstractStringBuilder", "count", "I", false)
def tyJ4 : Nat → FieldType := fun k => match k with
  | 0 => .array .byte
  | 1 => .byte
  | 2 => .boolean
  | _ => .int
abbrev wsJ40 : List Cond := u_ws RJ4 TJ4 4
theorem nmJ4 : ∀ a, a < 4 → ∀ b, b < 4 → a ≠ b → (TJ4 a).2.1 ≠ (TJ4 b).2.1 := by decide +kernel
theorem tyJ4_ok : ∀ k, k < 4 → parseFieldDescriptor (TJ4 k).2.2.1 = some (tyJ4 k) := by decide +kernel
abbrev cJ4_init_da8c8 : ByteArray := prog_28_method_1_code
def yJ4_init_da8c8 : MethodName := ⟨RJ4, "<init>", "()V"⟩
abbrev cJ4_append_15ec4 : ByteArray := prog_28_method_7_code
def yJ4_append_15ec4 : MethodName := ⟨RJ4, "append", "(Ljava/lang/String;)Ljava/lang/StringBuilder;"⟩
abbrev cJ4_append_bf812 : ByteArray := prog_28_method_15_code
def yJ4_append_bf812 : MethodName := ⟨RJ4, "append", "(I)Ljava/lang/StringBuilder;"⟩
abbrev cJ4_toString_0e30d : ByteArray := prog_28_method_42_code
def yJ4_toString_0e30d : MethodName := ⟨RJ4, "toString", "()Ljava/lang/String;"⟩
abbrev cJ4_length_8abf5 : ByteArray := prog_28_method_93_code
def yJ4_length_8abf5 : MethodName := ⟨RJ4, "length", "()I"⟩
def RJ1 : String := "java/lang/StringLatin1"
def TJ1 : u_T := fun k => match k with
  | _ => ("", "", "", false)
def tyJ1 : Nat → FieldType := fun k => match k with
  | _ => .int
abbrev wsJ10 : List Cond := u_ws RJ1 TJ1 0
theorem nmJ1 : ∀ a, a < 0 → ∀ b, b < 0 → a ≠ b → (TJ1 a).2.1 ≠ (TJ1 b).2.1 := by decide +kernel
theorem tyJ1_ok : ∀ k, k < 0 → parseFieldDescriptor (TJ1 k).2.2.1 = some (tyJ1 k) := by decide +kernel
abbrev cJ1_inflate_0e8fd : ByteArray := prog_29_method_50_code
def yJ1_inflate_0e8fd : MethodName := ⟨RJ1, "inflate", "([BI[BII)V"⟩
def RJ2 : String := "java/lang/StringUTF16"
def TJ2 : u_T := fun k => match k with
  | _ => ("", "", "", false)
def tyJ2 : Nat → FieldType := fun k => match k with
  | _ => .int
abbrev wsJ20 : List Cond := u_ws RJ2 TJ2 0
theorem nmJ2 : ∀ a, a < 0 → ∀ b, b < 0 → a ≠ b → (TJ2 a).2.1 ≠ (TJ2 b).2.1 := by decide +kernel
theorem tyJ2_ok : ∀ k, k < 0 → parseFieldDescriptor (TJ2 k).2.2.1 = some (tyJ2 k) := by decide +kernel
abbrev cJ2_newBytesFor_77867 : ByteArray := prog_30_method_2_code
def yJ2_newBytesFor_77867 : MethodName := ⟨RJ2, "newBytesFor", "(I)[B"⟩
abbrev cJ2_newBytesLength_0f7a4 : ByteArray := prog_30_method_3_code
def yJ2_newBytesLength_0f7a4 : MethodName := ⟨RJ2, "newBytesLength", "(I)I"⟩
abbrev cJ2_putChar_b72d1 : ByteArray := prog_30_method_4_code
def yJ2_putChar_b72d1 : MethodName := ⟨RJ2, "putChar", "([BII)V"⟩
abbrev cJ2_getChar_3b067 : ByteArray := prog_30_method_5_code
def yJ2_getChar_3b067 : MethodName := ⟨RJ2, "getChar", "([BI)C"⟩
abbrev cJ2_length_9d52b : ByteArray := prog_30_method_6_code
def yJ2_length_9d52b : MethodName := ⟨RJ2, "length", "([B)I"⟩
abbrev cJ2_coderFromArrayLen_85cad : ByteArray := prog_30_method_15_code
def yJ2_coderFromArrayLen_85cad : MethodName := ⟨RJ2, "coderFromArrayLen", "([BI)B"⟩
abbrev cJ2_compress_39247 : ByteArray := prog_30_method_17_code
def yJ2_compress_39247 : MethodName := ⟨RJ2, "compress", "([BII)[B"⟩
abbrev cJ2_compress_5af95 : ByteArray := prog_30_method_22_code
def yJ2_compress_5af95 : MethodName := ⟨RJ2, "compress", "([BI[BII)I"⟩
abbrev cJ2_getChars_46870 : ByteArray := prog_30_method_77_code
def yJ2_getChars_46870 : MethodName := ⟨RJ2, "getChars", "(III[B)I"⟩
abbrev cJ2_putCharsAt_cd4e5 : ByteArray := prog_30_method_81_code
def yJ2_putCharsAt_cd4e5 : MethodName := ⟨RJ2, "putCharsAt", "([BICCCC)I"⟩
abbrev cJ2_inflate_0e8fd : ByteArray := prog_30_method_86_code
def yJ2_inflate_0e8fd : MethodName := ⟨RJ2, "inflate", "([BI[BII)V"⟩
abbrev cJ2_getChars_ba4f3 : ByteArray := prog_30_method_89_code
def yJ2_getChars_ba4f3 : MethodName := ⟨RJ2, "getChars", "(II[B)I"⟩
abbrev cJ2_checkBoundsBeginEnd_d044e : ByteArray := prog_30_method_93_code
def yJ2_checkBoundsBeginEnd_d044e : MethodName := ⟨RJ2, "checkBoundsBeginEnd", "(II[B)V"⟩
abbrev cJ2_checkBoundsOffCount_d044e : ByteArray := prog_30_method_94_code
def yJ2_checkBoundsOffCount_d044e : MethodName := ⟨RJ2, "checkBoundsOffCount", "(II[B)V"⟩
def RJ10 : String := "java/lang/System"
def TJ10 : u_T := fun k => match k with
  | _ => ("", "", "", false)
def tyJ10 : Nat → FieldType := fun k => match k with
  | _ => .int
abbrev wsJ100 : List Cond := u_ws RJ10 TJ10 0
theorem nmJ10 : ∀ a, a < 0 → ∀ b, b < 0 → a ≠ b → (TJ10 a).2.1 ≠ (TJ10 b).2.1 := by decide +kernel
theorem tyJ10_ok : ∀ k, k < 0 → parseFieldDescriptor (TJ10 k).2.2.1 = some (tyJ10 k) := by decide +kernel
def RJ7 : String := "java/util/Arrays"
def TJ7 : u_T := fun k => match k with
  | _ => ("", "", "", false)
def tyJ7 : Nat → FieldType := fun k => match k with
  | _ => .int
abbrev wsJ70 : List Cond := u_ws RJ7 TJ7 0
theorem nmJ7 : ∀ a, a < 0 → ∀ b, b < 0 → a ≠ b → (TJ7 a).2.1 ≠ (TJ7 b).2.1 := by decide +kernel
theorem tyJ7_ok : ∀ k, k < 0 → parseFieldDescriptor (TJ7 k).2.2.1 = some (tyJ7 k) := by decide +kernel
abbrev cJ7_rangeCheck_23922 : ByteArray := prog_34_method_30_code
def yJ7_rangeCheck_23922 : MethodName := ⟨RJ7, "rangeCheck", "(III)V"⟩
abbrev cJ7_fill_d0a16 : ByteArray := prog_34_method_101_code
def yJ7_fill_d0a16 : MethodName := ⟨RJ7, "fill", "([JJ)V"⟩
abbrev cJ7_fill_53178 : ByteArray := prog_34_method_103_code
def yJ7_fill_53178 : MethodName := ⟨RJ7, "fill", "([II)V"⟩
abbrev cJ7_fill_031fb : ByteArray := prog_34_method_109_code
def yJ7_fill_031fb : MethodName := ⟨RJ7, "fill", "([BB)V"⟩
abbrev cJ7_fill_eb02e : ByteArray := prog_34_method_110_code
def yJ7_fill_eb02e : MethodName := ⟨RJ7, "fill", "([BIIB)V"⟩
abbrev cJ7_copyOf_9075b : ByteArray := prog_34_method_121_code
def yJ7_copyOf_9075b : MethodName := ⟨RJ7, "copyOf", "([BI)[B"⟩
abbrev cJ7_checkLength_df160 : ByteArray := prog_34_method_131_code
def yJ7_checkLength_df160 : MethodName := ⟨RJ7, "checkLength", "(II)V"⟩
abbrev cJ7_copyOfRange_39247 : ByteArray := prog_34_method_132_code
def yJ7_copyOfRange_39247 : MethodName := ⟨RJ7, "copyOfRange", "([BII)[B"⟩
abbrev cJ7_copyOfRangeByte_39247 : ByteArray := prog_34_method_133_code
def yJ7_copyOfRangeByte_39247 : MethodName := ⟨RJ7, "copyOfRangeByte", "([BII)[B"⟩
def RJ8 : String := "jdk/internal/util/ArraysSupport"
def TJ8 : u_T := fun k => match k with
  | _ => ("", "", "", false)
def tyJ8 : Nat → FieldType := fun k => match k with
  | _ => .int
abbrev wsJ80 : List Cond := u_ws RJ8 TJ8 0
theorem nmJ8 : ∀ a, a < 0 → ∀ b, b < 0 → a ≠ b → (TJ8 a).2.1 ≠ (TJ8 b).2.1 := by decide +kernel
theorem tyJ8_ok : ∀ k, k < 0 → parseFieldDescriptor (TJ8 k).2.2.1 = some (tyJ8 k) := by decide +kernel
abbrev cJ8_newLength_cabcc : ByteArray := prog_35_method_27_code
def yJ8_newLength_cabcc : MethodName := ⟨RJ8, "newLength", "(III)I"⟩
abbrev cJ8_hugeLength_7cf53 : ByteArray := prog_35_method_28_code
def yJ8_hugeLength_7cf53 : MethodName := ⟨RJ8, "hugeLength", "(II)I"⟩
def RJ3 : String := "jdk/internal/util/Preconditions"
def TJ3 : u_T := fun k => match k with
  | _ => ("", "", "", false)
def tyJ3 : Nat → FieldType := fun k => match k with
  | _ => .int
abbrev wsJ30 : List Cond := u_ws RJ3 TJ3 0
theorem nmJ3 : ∀ a, a < 0 → ∀ b, b < 0 → a ≠ b → (TJ3 a).2.1 ≠ (TJ3 b).2.1 := by decide +kernel
theorem tyJ3_ok : ∀ k, k < 0 → parseFieldDescriptor (TJ3 k).2.2.1 = some (tyJ3 k) := by decide +kernel
abbrev cJ3_checkFromToIndex_8c36e : ByteArray := prog_36_method_12_code
def yJ3_checkFromToIndex_8c36e : MethodName := ⟨RJ3, "checkFromToIndex", "(IIILjava/util/function/BiFunction;)I"⟩
abbrev cJ3_checkFromIndexSize_8c36e : ByteArray := prog_36_method_13_code
def yJ3_checkFromIndexSize_8c36e : MethodName := ⟨RJ3, "checkFromIndexSize", "(IIILjava/util/function/BiFunction;)I"⟩
def RL : String := "HashTreeSignerLaw"
abbrev cL_feed : ByteArray := method_3_code
def yL_feed : MethodName := ⟨RL, "feed", "(LHashTreeSigner;IIIII[J)I"⟩
abbrev cL_end : ByteArray := method_4_code
def yL_end : MethodName := ⟨RL, "end", "(LHashTreeSigner;II[J)I"⟩
abbrev cL_copy : ByteArray := method_5_code
def yL_copy : MethodName := ⟨RL, "copy", "(LHashTreeSigner;II[J)I"⟩
abbrev cL_resize : ByteArray := method_6_code
def yL_resize : MethodName := ⟨RL, "resize", "(LHashTreeSigner;II[J)I"⟩
abbrev cL_alter : ByteArray := method_7_code
def yL_alter : MethodName := ⟨RL, "alter", "(LHashTreeSigner;III[J)I"⟩
abbrev cL_length : ByteArray := method_8_code
def yL_length : MethodName := ⟨RL, "length", "(LHashTreeSigner;I[J)I"⟩
abbrev cL_word : ByteArray := method_9_code
def yL_word : MethodName := ⟨RL, "word", "(LHashTreeSigner;II[J)I"⟩
abbrev cL_same : ByteArray := method_10_code
def yL_same : MethodName := ⟨RL, "same", "(LHashTreeSigner;II[J)I"⟩
abbrev cL_slhKeys : ByteArray := method_11_code
def yL_slhKeys : MethodName := ⟨RL, "slhKeys", "(LHashTreeSigner;I[J)I"⟩
abbrev cL_slhSign : ByteArray := method_12_code
def yL_slhSign : MethodName := ⟨RL, "slhSign", "(LHashTreeSigner;II[J)I"⟩
abbrev cL_slhVerify : ByteArray := method_13_code
def yL_slhVerify : MethodName := ⟨RL, "slhVerify", "(LHashTreeSigner;II[J)I"⟩
abbrev cL_slhNode : ByteArray := method_14_code
def yL_slhNode : MethodName := ⟨RL, "slhNode", "(LHashTreeSigner;IIIII[J)I"⟩
abbrev cL_law : ByteArray := code
def yL_law : MethodName := ⟨RL, "law", "([I)Z"⟩
end
section
/-! the classes whose objects the pictures hold; the good words; which word stands where -/
abbrev vCl : List vw_C := [(RX0, TX0, 5), (RX1, TX1, 7), (RX4, TX4, 8), (RX5, TX5, 8), (RX6, TX6, 8), (RX7, TX7, 4), (RX9, TX9, 3), (RX10, TX10, 12), (RX11, TX11, 8), (RX12, TX12, 49)]
def vGW : List Cond := lw_tbl.filter goodWord
theorem vGW_ok : ∀ w ∈ vGW, ((w.onTables && w.keeps) = true ∨ ∃ ty, w = .arrayClass ty) := fun _ h => good_of_word (List.mem_filter.mp h).2
theorem vGW_at {w : Cond} (i : Nat) (h : tables_1[i]? = some w) (hg : goodWord w = true) : w ∈ vGW := List.mem_filter.mpr ⟨List.mem_append_right _ (List.mem_of_getElem? h), hg⟩
theorem vGW_sel {w : Cond} (i : Nat) (h : (k2_sels lw_privs)[i]? = some w) (hg : goodWord w = true) : w ∈ vGW := List.mem_filter.mpr ⟨List.mem_append_left _ (List.mem_of_getElem? h), hg⟩
def vNW : List Cond := [(Jvm.Cond.methodLinkNest "HashTreeSigner$ShakeFamily" (14 : Nat) ({ cls := "HashTreeSigner$Sponge", name := "<init>", desc := "()V" } : Jvm.MethodName) "HashTreeSigner"), (Jvm.Cond.declares ({ cls := "java/lang/RuntimeException", name := "<init>", desc := "()V" } : Jvm.MethodName)), (Jvm.Cond.declares ({ cls := "java/lang/RuntimeException", name := "<init>", desc := "(Ljava/lang/String;)V" } : Jvm.MethodName)), (Jvm.Cond.declares ({ cls := "java/lang/Exception", name := "<init>", desc := "()V" } : Jvm.MethodName)), (Jvm.Cond.declares ({ cls := "java/lang/Exception", name := "<init>", desc := "(Ljava/lang/String;)V" } : Jvm.MethodName)), (Jvm.Cond.declares ({ cls := "java/lang/Throwable", name := "<init>", desc := "()V" } : Jvm.MethodName)), (Jvm.Cond.declares ({ cls := "java/lang/Throwable", name := "<init>", desc := "(Ljava/lang/String;)V" } : Jvm.MethodName)), (Jvm.Cond.declares ({ cls := "HashTreeSigner$Family", name := "useSeed", desc := "()V" } : Jvm.MethodName)), (Jvm.Cond.declares ({ cls := "HashTreeSigner$Sha2", name := "compress", desc := "()V" } : Jvm.MethodName)), (Jvm.Cond.declares ({ cls := "HashTreeSigner$Family", name := "f", desc := "([BII[BI)V" } : Jvm.MethodName)), (Jvm.Cond.declares ({ cls := "HashTreeSigner$Family", name := "randomize", desc := "([BI[BI[B)V" } : Jvm.MethodName)), (Jvm.Cond.declares ({ cls := "HashTreeSigner$Family", name := "digest", desc := "([B[BI[BI)V" } : Jvm.MethodName))]
theorem vw_cpyN : Cond.native arraycopyName ∈ vGW := vGW_at 441 (by decide +kernel) (by decide +kernel)
theorem vw_cpyS : Cond.static arraycopyName ∈ vGW := vGW_at 440 (by decide +kernel) (by decide +kernel)
theorem vw_cpyI : Cond.initialized "java/lang/System" ∈ vGW := vGW_at 21 (by decide +kernel) (by decide +kernel)
end
section
/-! THE JUDGEMENT V: the machine at a pc, with locals lv and stack st, over a heap that holds the picture w (addresses to contents); all else is hidden -/
abbrev vG : Type := va_G × (Nat → ClassId)
abbrev vW : Type := Nat → Option va_E
abbrev vTys (G : vG) : List (ClassId × FieldType) := [(G.2 0, .byte), (G.2 1, .int), (G.2 2, .long), (G.2 3, .array .byte)]
/-- contents: arrays of bytes, ints, longs, references; objects -/
abbrev eB (G : vG) (n : Nat) (f : Nat → Int32) : va_E := .inl (G.2 0, n, .inl f)
abbrev eI (G : vG) (n : Nat) (f : Nat → Int32) : va_E := .inl (G.2 1, n, .inl f)
abbrev eJ (G : vG) (n : Nat) (f : Nat → Int64) : va_E := .inl (G.2 2, n, .inr (.inl f))
abbrev eR (G : vG) (n : Nat) (f : Nat → Option Nat) : va_E := .inl (G.2 3, n, .inr (.inr (.inr (.inr f))))
abbrev eO (ci : Nat) (fs : List Value) : va_E := .inr (ci, fs)
def vHas (w : vW) (ws : va_W) : Prop := ∀ (a : Nat) (e : va_E), w a = some e → ∃ k : Nat, ws[k]? = some (a, e)
def vHolds (G : vG) (B : Nat) (w : vW) (H : Heap) : Prop := ∃ ws : va_W, va_P G.1 vCl ws H ∧ va_D (fun q => B ≤ q) ws ∧ vHas w ws
/-- the picture with one content changed, or laid anew -/
abbrev vUp (w : vW) (a : Nat) (e : va_E) : vW := va_up w a (some e)
theorem vUp_self {w : vW} {a : Nat} {e : va_E} : vUp w a e a = some e := by simp [va_up]
theorem vUp_ne {w : vW} {a b : Nat} {e : va_E} (h : b ≠ a) : vUp w a e b = w b := by simp [va_up, h]
theorem vHas.set {w : vW} {ws : va_W} {A : Nat → Prop} (h : vHas w ws) (hD : va_D A ws) {k a : Nat} {e e' : va_E} (hk : ws[k]? = some (a, e)) : vHas (vUp w a e') (ws.set k (a, e')) := by
  intro b eb hb
  by_cases hab : b = a
  · subst hab
    rw [vUp_self] at hb
    cases hb
    have hlt : k < ws.length := (List.getElem?_eq_some_iff.mp hk).1
    exact ⟨k, by simp [List.getElem?_set, hlt]⟩
  · rw [vUp_ne hab] at hb
    obtain ⟨j, hj⟩ := h b eb hb
    have hkj : k ≠ j := by
      intro q
      subst q
      have := hj.symm.trans hk
      cases this
      exact hab rfl
    exact ⟨j, by rw [List.getElem?_set_ne hkj]; exact hj⟩
theorem vHas.push {w : vW} {ws : va_W} {a : Nat} {e' : va_E} (h : vHas w ws) : vHas (vUp w a e') (ws ++ [(a, e')]) := by
  intro b eb hb
  by_cases hab : b = a
  · subst hab
    rw [vUp_self] at hb
    cases hb
    exact ⟨ws.length, by simp⟩
  · rw [vUp_ne hab] at hb
    obtain ⟨j, hj⟩ := h b eb hb
    have hlt : j < ws.length := (List.getElem?_eq_some_iff.mp hj).1
    exact ⟨j, by rw [List.getElem?_append_left hlt]; exact hj⟩
theorem vHas.sub {w w' : vW} {ws : va_W} (h : vHas w ws) (hw : ∀ a e, w' a = some e → w a = some e) : vHas w' ws := fun a e q => h a e (hw a e q)
theorem vHolds.sub {G : vG} {B : Nat} {w w' : vW} {H : Heap} (h : vHolds G B w H) (hw : ∀ a e, w' a = some e → w a = some e) : vHolds G B w' H := by
  obtain ⟨ws, h1, h2, h3⟩ := h
  exact ⟨ws, h1, h2, h3.sub hw⟩
theorem vHolds.base {G : vG} {B : Nat} {w : vW} {H : Heap} (h : vHolds G B w H) {a : Nat} {e : va_E} (ha : w a = some e) : B ≤ a ∧ a < H.size := by
  obtain ⟨ws, h1, h2, h3⟩ := h
  obtain ⟨k, hk⟩ := h3 a e ha
  exact ⟨h2.2 k _ hk, (h1 k _ hk).lt⟩
/-- the statics that nobody writes -/
def vStat (_B : Nat) (_U : State) (_H : Heap) : Prop := True
theorem vStat.moved {B : Nat} {u U : State} {H : Heap} (_hvm : u.vm.Alike U.vm) (_h : vStat B u H) : vStat B U H := trivial
theorem vStat.kept {B : Nat} {U : State} {H H1 : Heap} (_h : vStat B U H) (_hq : ∀ a : Nat, a < H.size → ¬ B ≤ a → H1[a]? = H[a]?) : vStat B U H1 := trivial
def vNkB (w : Cond) : Bool := match w with
  | .fieldLinkNest .. => true
  | .methodLinkNest .. => true
  | .declares .. => true
  | _ => false
theorem vNw_warm {w : Cond} (hk : vNkB w = true) {s U : State} (hW : s.WarmedH U.vm) (h : va_Nw w s) : va_Nw w U := by
  cases w <;> first | exact va_Nw.warmF hW h | exact va_Nw.warmM hW h | exact va_Nw.warmD hW h | (simp [vNkB] at hk)
theorem vNW_kind : vNW.all vNkB = true := by decide +kernel
def vEnv (G : vG) (B : Nat) (U : State) : Prop := va_K G.1 vCl (vTys G) U ∧ B ≤ U.heap.size ∧ (∀ w ∈ vNW, va_Nw w U) ∧ vStat B U U.heap
theorem vNk_onTables {w : Cond} (hk : vNkB w = true) : w.onTables = true := by
  cases w <;> first | rfl | (simp [vNkB] at hk)
theorem vEnv.blind {G : vG} {B : Nat} {U : State} {g : JFrame} {mk : MethodId} {a : Array Value} (h : vEnv G B U) : vEnv G B (U.calling g mk a) :=
  ⟨va_K.moved (u := U) (U := U.calling g mk a) (Vm.Alike.refl U.vm) h.1, h.2.1, fun w hw => va_Nw.same (u := U) (U := U.calling g mk a) (vNk_onTables (List.all_eq_true.mp vNW_kind w hw)) rfl (h.2.2.1 w hw), vStat.moved (u := U) (U := U.calling g mk a) (Vm.Alike.refl U.vm) h.2.2.2⟩
theorem vEnv.carry {G : vG} {B : Nat} {s U : State} {H : Heap} {locs : List Loc} (h : vEnv G B s) (hS : va_S (fun q => B ≤ q) s.heap H locs) (hU : U.heap = H) (hW : s.WarmedH U.vm) : vEnv G B U := by
  subst hU
  exact ⟨va_K.moved hW.alike h.1, Nat.le_trans h.2.1 hS.1, fun w hw => vNw_warm (List.all_eq_true.mp vNW_kind w hw) hW (h.2.2.1 w hw), vStat.moved hW.alike (vStat.kept h.2.2.2 (fun a h1 h2 => hS.2.1 a h1 h2))⟩
def V (G : vG) (B : Nat) (p : Program) (l : Launch) (e : Env) (R : Room) (s : State) (m : MethodId) (args : Array Value) (below : List Frame) (meth : Method) (c : Code) (nL cells slots : Nat) (Q : State → Prop) (w : vW) (pc : Nat) (lv : List (Nat × Value)) (st : List Value) : Prop :=
  ∀ (H : Heap) (locs : List Loc) (ls : Array Slot), vHolds G B w H → va_S (fun q => B ≤ q) s.heap H locs → lv_has ls nL lv → W p l e R s m args below meth c H locs cells slots Q (F0 m pc ls st)
/-- an instruction, its length, and where the next one stands -/
def vD (cc : ByteArray) (pc : Nat) (i : Instr) (n pc' : Nat) : Prop := decode cc pc = .ok (i, n) ∧ pc' = pc + n
/-- what a walk of a method has at hand -/
def vC (G : vG) (B : Nat) (p : Program) (m : MethodId) (meth : Method) (c : Code) (cc : ByteArray) (nL : Nat) (ret : Option FieldType) (s : State) (args : Array Value) (own : String) : Prop :=
  CallFix p m c cc nL s args vGW own ∧ vEnv G B s ∧ meth.sig.returnType = ret ∧ meth.locks = false
def vRm (d mc ms : Nat) : Room := { frames := d, cells := mc, slots := ms, locals := 100 * d }
def vQ (G : vG) (B : Nat) (post : Option Value → vW → Prop) : Array Value → State → Outcome → State → Prop := fun _ st oc t => (∃ (r : Option Value) (w' : vW), oc = .returned r ∧ post r w' ∧ vHolds G B w' t.heap) ∧ va_F (fun q => B ≤ q) st t
/-- A CONTRACT: over a heap that holds w, called with av, y returns r with a heap that holds w', and 'post r w'' -/
def vOk (G : vG) (B : Nat) (l : Launch) (y : MethodName) (bytes : ByteArray) (maxL : Nat) (ret : Option FieldType) (d mc ms : Nat) (av : List Value) (w : vW) (post : Option Value → vW → Prop) : Prop :=
  Met l y (Cond.code y bytes maxL ret :: vGW) (vRm d mc ms) (va_Pc av (fun U => vEnv G B U ∧ vHolds G B w U.heap)) (vQ G B post) mc ms (fun q => B ≤ q)
/-- a field by its pool number: class number and place; for reads, for writes -/
def vFld (own : String) (index ci k : Nat) : Prop := ∃ (C : String) (T : u_T) (N : Nat) (ref host : String), vCl[ci]? = some (C, T, N) ∧ k < N ∧ (∀ w ∈ u_ws C T N, w ∈ vGW) ∧ (Cond.fieldLink own index ref (T k).2.1 (T k).2.2.1 ∈ vGW ∨ Cond.fieldLinkNest own index ref (T k).2.1 (T k).2.2.1 host ∈ vNW) ∧ (ref = (T k).1 ∨ Cond.sameField ref (T k).1 (T k).2.1 (T k).2.2.1 ∈ vGW)
def vFldP (own : String) (index ci k : Nat) (ty : FieldType) : Prop := ∃ (C : String) (T : u_T) (N : Nat) (ref host : String) (ty0 : Nat → FieldType), vCl[ci]? = some (C, T, N) ∧ k < N ∧ (∀ w ∈ u_ws C T N, w ∈ vGW) ∧ (Cond.fieldLink own index ref (T k).2.1 (T k).2.2.1 ∈ vGW ∨ Cond.fieldLinkNest own index ref (T k).2.1 (T k).2.2.1 host ∈ vNW) ∧ (ref = (T k).1 ∨ Cond.sameField ref (T k).1 (T k).2.1 (T k).2.2.1 ∈ vGW) ∧ (∀ j, j < N → parseFieldDescriptor (T j).2.2.1 = some (ty0 j)) ∧ (∀ a, a < N → ∀ b, b < N → a ≠ b → (T a).2.1 ≠ (T b).2.1) ∧ (T k).2.2.2 = false ∧ parseFieldDescriptor (T k).2.2.1 = some ty
def vFldF (own : String) (index ci k : Nat) (ty : FieldType) : Prop := ∃ (C : String) (T : u_T) (N : Nat) (ref host : String) (ty0 : Nat → FieldType), vCl[ci]? = some (C, T, N) ∧ k < N ∧ (∀ w ∈ u_ws C T N, w ∈ vGW) ∧ (Cond.fieldLink own index ref (T k).2.1 (T k).2.2.1 ∈ vGW ∨ Cond.fieldLinkNest own index ref (T k).2.1 (T k).2.2.1 host ∈ vNW) ∧ (ref = (T k).1 ∨ Cond.sameField ref (T k).1 (T k).2.1 (T k).2.2.1 ∈ vGW) ∧ (∀ j, j < N → parseFieldDescriptor (T j).2.2.1 = some (ty0 j)) ∧ (∀ a, a < N → ∀ b, b < N → a ≠ b → (T a).2.1 ≠ (T b).2.1) ∧ (T k).2.2.2 = true ∧ (T k).1 = own ∧ parseFieldDescriptor (T k).2.2.1 = some ty
def vNoH (C : String) : Prop := C ≠ "java/lang/invoke/MethodHandle" ∧ C ≠ "java/lang/invoke/VarHandle"
def vPar (desc : String) (n : Nat) : Prop := (parseMethodDescriptor desc).map (fun d => d.parameters.length) = some n
/-- a method by its pool number: static; on a receiver of its own class; a constructor; answered by another -/
def vLS (own : String) (index : Nat) (y : MethodName) (bytes : ByteArray) (maxL : Nat) (rt : Option FieldType) (n : Nat) : Prop := (Cond.methodLink own index y ∈ vGW ∨ ∃ host, Cond.methodLinkNest own index y host ∈ vNW) ∧ Cond.static y ∈ vGW ∧ Cond.initialized y.cls ∈ vGW ∧ Cond.code y bytes maxL rt ∈ vGW ∧ vNoH y.cls ∧ vPar y.desc n
def vLV (own : String) (index : Nat) (y : MethodName) (bytes : ByteArray) (maxL : Nat) (rt : Option FieldType) (n ci : Nat) : Prop := (∃ q : vw_C, vCl[ci]? = some q ∧ q.1 = y.cls) ∧ (Cond.methodLink own index y ∈ vGW ∨ ∃ host, Cond.methodLinkNest own index y host ∈ vNW) ∧ Cond.instanceMethod y ∈ vGW ∧ Cond.selects y.cls y y ∈ vGW ∧ Cond.initialized y.cls ∈ vGW ∧ Cond.code y bytes maxL rt ∈ vGW ∧ vNoH y.cls ∧ vPar y.desc n
def vLI (own : String) (index : Nat) (y : MethodName) (bytes : ByteArray) (maxL n : Nat) : Prop := (Cond.methodLink own index y ∈ vGW ∨ ∃ host, Cond.methodLinkNest own index y host ∈ vNW) ∧ Cond.instanceMethod y ∈ vGW ∧ Cond.initialized y.cls ∈ vGW ∧ Cond.code y bytes maxL none ∈ vGW ∧ y.name = "<init>" ∧ vNoH y.cls ∧ vPar y.desc n
def vLU (own : String) (index : Nat) (x y : MethodName) (bytes : ByteArray) (maxL : Nat) (rt : Option FieldType) (n ci : Nat) : Prop := ∃ (q : vw_C) (owner : String), vCl[ci]? = some q ∧ Cond.methodLink own index x ∈ vGW ∧ Cond.sameMethod x.cls owner x.name x.desc ∈ vGW ∧ (Cond.declares ⟨owner, x.name, x.desc⟩ ∈ vNW ∨ ∃ (b0 : ByteArray) (m0 : Nat) (r0 : Option FieldType), Cond.instanceMethod ⟨owner, x.name, x.desc⟩ ∈ vGW ∧ Cond.code ⟨owner, x.name, x.desc⟩ b0 m0 r0 ∈ vGW) ∧ Cond.selects q.1 x y ∈ vGW ∧ Cond.instanceMethod y ∈ vGW ∧ Cond.initialized y.cls ∈ vGW ∧ Cond.code y bytes maxL rt ∈ vGW ∧ vNoH owner ∧ vPar x.desc n
theorem vNe {w : vW} {a b : Nat} {e1 e2 : va_E} (h1 : w a = some e1) (h2 : w b = some e2) (h : e1 ≠ e2) : a ≠ b := fun q => h (by subst q; exact Option.some.inj (h1.symm.trans h2))
end
section
section VRows
variable {G : vG} {B : Nat} {p : Program} {l : Launch} {e : Env} {R : Room} {s : State} {m : MethodId} {args : Array Value} {below : List Frame} {meth : Method} {c : Code} {nL cells slots : Nat} {Q : State → Prop} {w : vW} {cc : ByteArray} {ret : Option FieldType} {own : String} {pc pc' : Nat} {lv : List (Nat × Value)} {st : List Value}
theorem v_iconst (C : vC G B p m meth c cc nL ret s args own) {n : Int} {v : Int32} (hd : vD cc pc (.iconst n) 1 pc') (hv : Int32.ofInt n = v) (k : V G B p l e R s m args below meth c nL cells slots Q w pc' lv (.int v :: st)) : V G B p l e R s m args below meth c nL cells slots Q w pc lv (st) := by
  intro H locs ls h1 h2 h3
  have k := k H locs ls h1 h2 h3
  rw [hd.2] at k
  exact lv_iconst C.1.1 C.1.2.1 hd.1 hv k
theorem v_bipush (C : vC G B p m meth c cc nL ret s args own) {n : Int} {v : Int32} (hd : vD cc pc (.bipush n) 2 pc') (hv : (Int8.ofInt n).toInt32 = v) (k : V G B p l e R s m args below meth c nL cells slots Q w pc' lv (.int v :: st)) : V G B p l e R s m args below meth c nL cells slots Q w pc lv (st) := by
  intro H locs ls h1 h2 h3
  have k := k H locs ls h1 h2 h3
  rw [hd.2] at k
  exact lv_bipush C.1.1 C.1.2.1 hd.1 hv k
theorem v_sipush (C : vC G B p m meth c cc nL ret s args own) {n : Int} {v : Int32} (hd : vD cc pc (.sipush n) 3 pc') (hv : (Int16.ofInt n).toInt32 = v) (k : V G B p l e R s m args below meth c nL cells slots Q w pc' lv (.int v :: st)) : V G B p l e R s m args below meth c nL cells slots Q w pc lv (st) := by
  intro H locs ls h1 h2 h3
  have k := k H locs ls h1 h2 h3
  rw [hd.2] at k
  exact lv_sipush C.1.1 C.1.2.1 hd.1 hv k
theorem v_lconst (C : vC G B p m meth c cc nL ret s args own) {n : Fin 2} {v : Int64} (hd : vD cc pc (.lconst n) 1 pc') (hv : Int64.ofNat (n : Nat) = v) (k : V G B p l e R s m args below meth c nL cells slots Q w pc' lv (.long v :: st)) : V G B p l e R s m args below meth c nL cells slots Q w pc lv (st) := by
  intro H locs ls h1 h2 h3
  have k := k H locs ls h1 h2 h3
  rw [hd.2] at k
  exact lv_lconst C.1.1 C.1.2.1 hd.1 hv k
theorem v_ldc (C : vC G B p m meth c cc nL ret s args own) {index : Nat} {v : Int32} (hd : vD cc pc (.ldc index) 2 pc') (hw : Cond.constant own index v ∈ vGW) (k : V G B p l e R s m args below meth c nL cells slots Q w pc' lv (.int v :: st)) : V G B p l e R s m args below meth c nL cells slots Q w pc lv (st) := by
  intro H locs ls h1 h2 h3
  have k := k H locs ls h1 h2 h3
  rw [hd.2] at k
  exact lv_ldc C.1.1 C.1.2.1 C.1.2.2.2.1 (C.1.2.2.2.2 _ hw) hd.1 k
theorem v_ldcw (C : vC G B p m meth c cc nL ret s args own) {index : Nat} {v : Int32} (hd : vD cc pc (.ldc_w index) 3 pc') (hw : Cond.constant own index v ∈ vGW) (k : V G B p l e R s m args below meth c nL cells slots Q w pc' lv (.int v :: st)) : V G B p l e R s m args below meth c nL cells slots Q w pc lv (st) := by
  intro H locs ls h1 h2 h3
  have k := k H locs ls h1 h2 h3
  rw [hd.2] at k
  exact lv_ldcw C.1.1 C.1.2.1 C.1.2.2.2.1 (C.1.2.2.2.2 _ hw) hd.1 k
theorem v_ldc2 (C : vC G B p m meth c cc nL ret s args own) {index : Nat} {v : Int64} (hd : vD cc pc (.ldc2_w index) 3 pc') (hw : Cond.constantLong own index v ∈ vGW) (k : V G B p l e R s m args below meth c nL cells slots Q w pc' lv (.long v :: st)) : V G B p l e R s m args below meth c nL cells slots Q w pc lv (st) := by
  intro H locs ls h1 h2 h3
  have k := k H locs ls h1 h2 h3
  rw [hd.2] at k
  exact lv_ldc2 C.1.1 C.1.2.1 C.1.2.2.2.1 (C.1.2.2.2.2 _ hw) hd.1 k
theorem v_iload_n (C : vC G B p m meth c cc nL ret s args own) {k0 : Fin 4} {i : Nat} {x : Int32} (hd : vD cc pc (.iload_n k0) 1 pc') (hi : (k0 : Nat) = i) (j : Nat) (hj : lv[j]? = some (i, .int x)) (k : V G B p l e R s m args below meth c nL cells slots Q w pc' lv (.int x :: st)) : V G B p l e R s m args below meth c nL cells slots Q w pc lv (st) := by
  intro H locs ls h1 h2 h3
  have k := k H locs ls h1 h2 h3
  rw [hd.2] at k
  exact lv_iload_n C.1.1 C.1.2.1 hd.1 hi (lv_at h3 j hj) k
theorem v_iload (C : vC G B p m meth c cc nL ret s args own) {i : Nat} {x : Int32} (hd : vD cc pc (.iload i) 2 pc') (j : Nat) (hj : lv[j]? = some (i, .int x)) (k : V G B p l e R s m args below meth c nL cells slots Q w pc' lv (.int x :: st)) : V G B p l e R s m args below meth c nL cells slots Q w pc lv (st) := by
  intro H locs ls h1 h2 h3
  have k := k H locs ls h1 h2 h3
  rw [hd.2] at k
  exact lv_iload C.1.1 C.1.2.1 hd.1 (lv_at h3 j hj) k
theorem v_lload_n (C : vC G B p m meth c cc nL ret s args own) {k0 : Fin 4} {i : Nat} {x : Int64} (hd : vD cc pc (.lload_n k0) 1 pc') (hi : (k0 : Nat) = i) (j : Nat) (hj : lv[j]? = some (i, .long x)) (k : V G B p l e R s m args below meth c nL cells slots Q w pc' lv (.long x :: st)) : V G B p l e R s m args below meth c nL cells slots Q w pc lv (st) := by
  intro H locs ls h1 h2 h3
  have k := k H locs ls h1 h2 h3
  rw [hd.2] at k
  exact lv_lload_n C.1.1 C.1.2.1 hd.1 hi (lv_at h3 j hj) k
theorem v_lload (C : vC G B p m meth c cc nL ret s args own) {i : Nat} {x : Int64} (hd : vD cc pc (.lload i) 2 pc') (j : Nat) (hj : lv[j]? = some (i, .long x)) (k : V G B p l e R s m args below meth c nL cells slots Q w pc' lv (.long x :: st)) : V G B p l e R s m args below meth c nL cells slots Q w pc lv (st) := by
  intro H locs ls h1 h2 h3
  have k := k H locs ls h1 h2 h3
  rw [hd.2] at k
  exact lv_lload C.1.1 C.1.2.1 hd.1 (lv_at h3 j hj) k
theorem v_aload_n (C : vC G B p m meth c cc nL ret s args own) {k0 : Fin 4} {i : Nat} {x : Nat} (hd : vD cc pc (.aload_n k0) 1 pc') (hi : (k0 : Nat) = i) (j : Nat) (hj : lv[j]? = some (i, .ref x)) (k : V G B p l e R s m args below meth c nL cells slots Q w pc' lv (.ref x :: st)) : V G B p l e R s m args below meth c nL cells slots Q w pc lv (st) := by
  intro H locs ls h1 h2 h3
  have k := k H locs ls h1 h2 h3
  rw [hd.2] at k
  exact lv_aload_n C.1.1 C.1.2.1 hd.1 hi (lv_at h3 j hj) k
theorem v_aload (C : vC G B p m meth c cc nL ret s args own) {i : Nat} {x : Nat} (hd : vD cc pc (.aload i) 2 pc') (j : Nat) (hj : lv[j]? = some (i, .ref x)) (k : V G B p l e R s m args below meth c nL cells slots Q w pc' lv (.ref x :: st)) : V G B p l e R s m args below meth c nL cells slots Q w pc lv (st) := by
  intro H locs ls h1 h2 h3
  have k := k H locs ls h1 h2 h3
  rw [hd.2] at k
  exact lv_aload C.1.1 C.1.2.1 hd.1 (lv_at h3 j hj) k
theorem v_istore_n (C : vC G B p m meth c cc nL ret s args own) {k0 : Fin 4} {i : Nat} {x : Int32} {lv' : List (Nat × Value)} (hd : vD cc pc (.istore_n k0) 1 pc') (hi : (k0 : Nat) = i) (hn : i < nL) (ks : List Nat) (hl : lv_pick ((i, Value.int x) :: lv.filter (fun q => !(q.1 == i) && !(q.1 + 1 == i && q.2.category == 2))) ks = lv') (k : V G B p l e R s m args below meth c nL cells slots Q w pc' lv' st) : V G B p l e R s m args below meth c nL cells slots Q w pc lv (.int x :: st) := by
  intro H locs ls h1 h2 h3
  rw [hd.2] at k
  exact lv_istore_n C.1.1 C.1.2.1 hd.1 hi h3 hn rfl (fun ls' h4 => k H locs ls' h1 h2 (lv_sub h4 ks hl))
theorem v_istore (C : vC G B p m meth c cc nL ret s args own) {i : Nat} {x : Int32} {lv' : List (Nat × Value)} (hd : vD cc pc (.istore i) 2 pc') (hn : i < nL) (ks : List Nat) (hl : lv_pick ((i, Value.int x) :: lv.filter (fun q => !(q.1 == i) && !(q.1 + 1 == i && q.2.category == 2))) ks = lv') (k : V G B p l e R s m args below meth c nL cells slots Q w pc' lv' st) : V G B p l e R s m args below meth c nL cells slots Q w pc lv (.int x :: st) := by
  intro H locs ls h1 h2 h3
  rw [hd.2] at k
  exact lv_istore C.1.1 C.1.2.1 hd.1 h3 hn rfl (fun ls' h4 => k H locs ls' h1 h2 (lv_sub h4 ks hl))
theorem v_lstore_n (C : vC G B p m meth c cc nL ret s args own) {k0 : Fin 4} {i : Nat} {x : Int64} {lv' : List (Nat × Value)} (hd : vD cc pc (.lstore_n k0) 1 pc') (hi : (k0 : Nat) = i) (hn : i + 1 < nL) (ks : List Nat) (hl : lv_pick ((i, Value.long x) :: lv.filter (fun q => !(q.1 == i) && (!(q.1 == i + 1) && !(q.1 + 1 == i && q.2.category == 2)))) ks = lv') (k : V G B p l e R s m args below meth c nL cells slots Q w pc' lv' st) : V G B p l e R s m args below meth c nL cells slots Q w pc lv (.long x :: st) := by
  intro H locs ls h1 h2 h3
  rw [hd.2] at k
  exact lv_lstore_n C.1.1 C.1.2.1 hd.1 hi h3 hn rfl (fun ls' h4 => k H locs ls' h1 h2 (lv_sub h4 ks hl))
theorem v_lstore (C : vC G B p m meth c cc nL ret s args own) {i : Nat} {x : Int64} {lv' : List (Nat × Value)} (hd : vD cc pc (.lstore i) 2 pc') (hn : i + 1 < nL) (ks : List Nat) (hl : lv_pick ((i, Value.long x) :: lv.filter (fun q => !(q.1 == i) && (!(q.1 == i + 1) && !(q.1 + 1 == i && q.2.category == 2)))) ks = lv') (k : V G B p l e R s m args below meth c nL cells slots Q w pc' lv' st) : V G B p l e R s m args below meth c nL cells slots Q w pc lv (.long x :: st) := by
  intro H locs ls h1 h2 h3
  rw [hd.2] at k
  exact lv_lstore C.1.1 C.1.2.1 hd.1 h3 hn rfl (fun ls' h4 => k H locs ls' h1 h2 (lv_sub h4 ks hl))
theorem v_astore_n (C : vC G B p m meth c cc nL ret s args own) {k0 : Fin 4} {i : Nat} {x : Nat} {lv' : List (Nat × Value)} (hd : vD cc pc (.astore_n k0) 1 pc') (hi : (k0 : Nat) = i) (hn : i < nL) (ks : List Nat) (hl : lv_pick ((i, Value.ref x) :: lv.filter (fun q => !(q.1 == i) && !(q.1 + 1 == i && q.2.category == 2))) ks = lv') (k : V G B p l e R s m args below meth c nL cells slots Q w pc' lv' st) : V G B p l e R s m args below meth c nL cells slots Q w pc lv (.ref x :: st) := by
  intro H locs ls h1 h2 h3
  rw [hd.2] at k
  exact lv_astore_n C.1.1 C.1.2.1 hd.1 hi h3 hn rfl (fun ls' h4 => k H locs ls' h1 h2 (lv_sub h4 ks hl))
theorem v_astore (C : vC G B p m meth c cc nL ret s args own) {i : Nat} {x : Nat} {lv' : List (Nat × Value)} (hd : vD cc pc (.astore i) 2 pc') (hn : i < nL) (ks : List Nat) (hl : lv_pick ((i, Value.ref x) :: lv.filter (fun q => !(q.1 == i) && !(q.1 + 1 == i && q.2.category == 2))) ks = lv') (k : V G B p l e R s m args below meth c nL cells slots Q w pc' lv' st) : V G B p l e R s m args below meth c nL cells slots Q w pc lv (.ref x :: st) := by
  intro H locs ls h1 h2 h3
  rw [hd.2] at k
  exact lv_astore C.1.1 C.1.2.1 hd.1 h3 hn rfl (fun ls' h4 => k H locs ls' h1 h2 (lv_sub h4 ks hl))
theorem v_iinc (C : vC G B p m meth c cc nL ret s args own) {i : Nat} {n : Int} {x v : Int32} {lv' : List (Nat × Value)} (hd : vD cc pc (.iinc i n) 3 pc') (j : Nat) (hj : lv[j]? = some (i, .int x)) (hv : x + Int32.ofInt n = v) (hn : i < nL) (ks : List Nat) (hl : lv_pick ((i, Value.int v) :: lv.filter (fun q => !(q.1 == i) && !(q.1 + 1 == i && q.2.category == 2))) ks = lv') (k : V G B p l e R s m args below meth c nL cells slots Q w pc' lv' st) : V G B p l e R s m args below meth c nL cells slots Q w pc lv st := by
  intro H locs ls h1 h2 h3
  rw [hd.2] at k
  exact lv_iinc C.1.1 C.1.2.1 hd.1 h3 hj hv hn rfl (fun ls' h4 => k H locs ls' h1 h2 (lv_sub h4 ks hl))
theorem v_iadd (C : vC G B p m meth c cc nL ret s args own) {x y : Int32} (hd : vD cc pc .iadd 1 pc')  (k : V G B p l e R s m args below meth c nL cells slots Q w pc' lv (.int (x + y) :: st)) : V G B p l e R s m args below meth c nL cells slots Q w pc lv (.int y :: .int x :: st) := by
  intro H locs ls h1 h2 h3
  have k := k H locs ls h1 h2 h3
  rw [hd.2] at k
  exact lv_iadd C.1.1 C.1.2.1 hd.1 k
theorem v_isub (C : vC G B p m meth c cc nL ret s args own) {x y : Int32} (hd : vD cc pc .isub 1 pc')  (k : V G B p l e R s m args below meth c nL cells slots Q w pc' lv (.int (x - y) :: st)) : V G B p l e R s m args below meth c nL cells slots Q w pc lv (.int y :: .int x :: st) := by
  intro H locs ls h1 h2 h3
  have k := k H locs ls h1 h2 h3
  rw [hd.2] at k
  exact lv_isub C.1.1 C.1.2.1 hd.1 k
theorem v_imul (C : vC G B p m meth c cc nL ret s args own) {x y : Int32} (hd : vD cc pc .imul 1 pc')  (k : V G B p l e R s m args below meth c nL cells slots Q w pc' lv (.int (x * y) :: st)) : V G B p l e R s m args below meth c nL cells slots Q w pc lv (.int y :: .int x :: st) := by
  intro H locs ls h1 h2 h3
  have k := k H locs ls h1 h2 h3
  rw [hd.2] at k
  exact lv_imul C.1.1 C.1.2.1 hd.1 k
theorem v_iand (C : vC G B p m meth c cc nL ret s args own) {x y : Int32} (hd : vD cc pc .iand 1 pc')  (k : V G B p l e R s m args below meth c nL cells slots Q w pc' lv (.int (x &&& y) :: st)) : V G B p l e R s m args below meth c nL cells slots Q w pc lv (.int y :: .int x :: st) := by
  intro H locs ls h1 h2 h3
  have k := k H locs ls h1 h2 h3
  rw [hd.2] at k
  exact lv_iand C.1.1 C.1.2.1 hd.1 k
theorem v_ior (C : vC G B p m meth c cc nL ret s args own) {x y : Int32} (hd : vD cc pc .ior 1 pc')  (k : V G B p l e R s m args below meth c nL cells slots Q w pc' lv (.int (x ||| y) :: st)) : V G B p l e R s m args below meth c nL cells slots Q w pc lv (.int y :: .int x :: st) := by
  intro H locs ls h1 h2 h3
  have k := k H locs ls h1 h2 h3
  rw [hd.2] at k
  exact lv_ior C.1.1 C.1.2.1 hd.1 k
theorem v_ixor (C : vC G B p m meth c cc nL ret s args own) {x y : Int32} (hd : vD cc pc .ixor 1 pc')  (k : V G B p l e R s m args below meth c nL cells slots Q w pc' lv (.int (x ^^^ y) :: st)) : V G B p l e R s m args below meth c nL cells slots Q w pc lv (.int y :: .int x :: st) := by
  intro H locs ls h1 h2 h3
  have k := k H locs ls h1 h2 h3
  rw [hd.2] at k
  exact lv_ixor C.1.1 C.1.2.1 hd.1 k
theorem v_ishl (C : vC G B p m meth c cc nL ret s args own) {x y : Int32} (hd : vD cc pc .ishl 1 pc')  (k : V G B p l e R s m args below meth c nL cells slots Q w pc' lv (.int (x <<< (y &&& 31)) :: st)) : V G B p l e R s m args below meth c nL cells slots Q w pc lv (.int y :: .int x :: st) := by
  intro H locs ls h1 h2 h3
  have k := k H locs ls h1 h2 h3
  rw [hd.2] at k
  exact lv_ishl C.1.1 C.1.2.1 hd.1 k
theorem v_ishr (C : vC G B p m meth c cc nL ret s args own) {x y : Int32} (hd : vD cc pc .ishr 1 pc')  (k : V G B p l e R s m args below meth c nL cells slots Q w pc' lv (.int (x >>> (y &&& 31)) :: st)) : V G B p l e R s m args below meth c nL cells slots Q w pc lv (.int y :: .int x :: st) := by
  intro H locs ls h1 h2 h3
  have k := k H locs ls h1 h2 h3
  rw [hd.2] at k
  exact lv_ishr C.1.1 C.1.2.1 hd.1 k
theorem v_iushr (C : vC G B p m meth c cc nL ret s args own) {x y : Int32} (hd : vD cc pc .iushr 1 pc')  (k : V G B p l e R s m args below meth c nL cells slots Q w pc' lv (.int ((x.toUInt32 >>> (y.toUInt32 &&& Int32.toUInt32 31)).toInt32) :: st)) : V G B p l e R s m args below meth c nL cells slots Q w pc lv (.int y :: .int x :: st) := by
  intro H locs ls h1 h2 h3
  have k := k H locs ls h1 h2 h3
  rw [hd.2] at k
  exact lv_iushr C.1.1 C.1.2.1 hd.1 rfl k
theorem v_ladd (C : vC G B p m meth c cc nL ret s args own) {x y : Int64} (hd : vD cc pc .ladd 1 pc')  (k : V G B p l e R s m args below meth c nL cells slots Q w pc' lv (.long (x + y) :: st)) : V G B p l e R s m args below meth c nL cells slots Q w pc lv (.long y :: .long x :: st) := by
  intro H locs ls h1 h2 h3
  have k := k H locs ls h1 h2 h3
  rw [hd.2] at k
  exact lv_ladd C.1.1 C.1.2.1 hd.1 k
theorem v_lsub (C : vC G B p m meth c cc nL ret s args own) {x y : Int64} (hd : vD cc pc .lsub 1 pc')  (k : V G B p l e R s m args below meth c nL cells slots Q w pc' lv (.long (x - y) :: st)) : V G B p l e R s m args below meth c nL cells slots Q w pc lv (.long y :: .long x :: st) := by
  intro H locs ls h1 h2 h3
  have k := k H locs ls h1 h2 h3
  rw [hd.2] at k
  exact lv_lsub C.1.1 C.1.2.1 hd.1 k
theorem v_lmul (C : vC G B p m meth c cc nL ret s args own) {x y : Int64} (hd : vD cc pc .lmul 1 pc')  (k : V G B p l e R s m args below meth c nL cells slots Q w pc' lv (.long (x * y) :: st)) : V G B p l e R s m args below meth c nL cells slots Q w pc lv (.long y :: .long x :: st) := by
  intro H locs ls h1 h2 h3
  have k := k H locs ls h1 h2 h3
  rw [hd.2] at k
  exact lv_lmul C.1.1 C.1.2.1 hd.1 k
theorem v_land (C : vC G B p m meth c cc nL ret s args own) {x y : Int64} (hd : vD cc pc .land 1 pc')  (k : V G B p l e R s m args below meth c nL cells slots Q w pc' lv (.long (x &&& y) :: st)) : V G B p l e R s m args below meth c nL cells slots Q w pc lv (.long y :: .long x :: st) := by
  intro H locs ls h1 h2 h3
  have k := k H locs ls h1 h2 h3
  rw [hd.2] at k
  exact lv_land C.1.1 C.1.2.1 hd.1 k
theorem v_lor (C : vC G B p m meth c cc nL ret s args own) {x y : Int64} (hd : vD cc pc .lor 1 pc')  (k : V G B p l e R s m args below meth c nL cells slots Q w pc' lv (.long (x ||| y) :: st)) : V G B p l e R s m args below meth c nL cells slots Q w pc lv (.long y :: .long x :: st) := by
  intro H locs ls h1 h2 h3
  have k := k H locs ls h1 h2 h3
  rw [hd.2] at k
  exact lv_lor C.1.1 C.1.2.1 hd.1 k
theorem v_lxor (C : vC G B p m meth c cc nL ret s args own) {x y : Int64} (hd : vD cc pc .lxor 1 pc')  (k : V G B p l e R s m args below meth c nL cells slots Q w pc' lv (.long (x ^^^ y) :: st)) : V G B p l e R s m args below meth c nL cells slots Q w pc lv (.long y :: .long x :: st) := by
  intro H locs ls h1 h2 h3
  have k := k H locs ls h1 h2 h3
  rw [hd.2] at k
  exact lv_lxor C.1.1 C.1.2.1 hd.1 k
theorem v_lushr (C : vC G B p m meth c cc nL ret s args own) {x : Int64} {y : Int32} (hd : vD cc pc .lushr 1 pc')  (k : V G B p l e R s m args below meth c nL cells slots Q w pc' lv (.long ((x.toUInt64 >>> (y.toInt64.toUInt64 &&& Int64.toUInt64 63)).toInt64) :: st)) : V G B p l e R s m args below meth c nL cells slots Q w pc lv (.int y :: .long x :: st) := by
  intro H locs ls h1 h2 h3
  have k := k H locs ls h1 h2 h3
  rw [hd.2] at k
  exact lv_lushr C.1.1 C.1.2.1 hd.1 rfl k
theorem v_lshl (C : vC G B p m meth c cc nL ret s args own) {x : Int64} {y : Int32} (hd : vD cc pc .lshl 1 pc')  (k : V G B p l e R s m args below meth c nL cells slots Q w pc' lv (.long (x <<< (y.toInt64 &&& 63)) :: st)) : V G B p l e R s m args below meth c nL cells slots Q w pc lv (.int y :: .long x :: st) := by
  intro H locs ls h1 h2 h3
  have k := k H locs ls h1 h2 h3
  rw [hd.2] at k
  exact lv_lshl C.1.1 C.1.2.1 hd.1 rfl k
theorem v_lshr (C : vC G B p m meth c cc nL ret s args own) {x : Int64} {y : Int32} (hd : vD cc pc .lshr 1 pc')  (k : V G B p l e R s m args below meth c nL cells slots Q w pc' lv (.long (x >>> (y.toInt64 &&& 63)) :: st)) : V G B p l e R s m args below meth c nL cells slots Q w pc lv (.int y :: .long x :: st) := by
  intro H locs ls h1 h2 h3
  have k := k H locs ls h1 h2 h3
  rw [hd.2] at k
  exact lv_lshr C.1.1 C.1.2.1 hd.1 rfl k
theorem v_idiv (C : vC G B p m meth c cc nL ret s args own) {x y : Int32} (hd : vD cc pc .idiv 1 pc') (hne : ¬ y = 0) (k : V G B p l e R s m args below meth c nL cells slots Q w pc' lv (.int (x / y) :: st)) : V G B p l e R s m args below meth c nL cells slots Q w pc lv (.int y :: .int x :: st) := by
  intro H locs ls h1 h2 h3
  have k := k H locs ls h1 h2 h3
  rw [hd.2] at k
  exact lv_idiv C.1.1 C.1.2.1 hd.1 hne k
theorem v_irem (C : vC G B p m meth c cc nL ret s args own) {x y : Int32} (hd : vD cc pc .irem 1 pc') (hne : ¬ y = 0) (k : V G B p l e R s m args below meth c nL cells slots Q w pc' lv (.int (x - x / y * y) :: st)) : V G B p l e R s m args below meth c nL cells slots Q w pc lv (.int y :: .int x :: st) := by
  intro H locs ls h1 h2 h3
  have k := k H locs ls h1 h2 h3
  rw [hd.2] at k
  exact lv_irem C.1.1 C.1.2.1 hd.1 hne k
theorem v_ineg (C : vC G B p m meth c cc nL ret s args own) {x : Int32} (hd : vD cc pc .ineg 1 pc')  (k : V G B p l e R s m args below meth c nL cells slots Q w pc' lv (.int (-x) :: st)) : V G B p l e R s m args below meth c nL cells slots Q w pc lv (.int x :: st) := by
  intro H locs ls h1 h2 h3
  have k := k H locs ls h1 h2 h3
  rw [hd.2] at k
  exact lv_ineg C.1.1 C.1.2.1 hd.1 k
theorem v_lneg (C : vC G B p m meth c cc nL ret s args own) {x : Int64} (hd : vD cc pc .lneg 1 pc')  (k : V G B p l e R s m args below meth c nL cells slots Q w pc' lv (.long (-x) :: st)) : V G B p l e R s m args below meth c nL cells slots Q w pc lv (.long x :: st) := by
  intro H locs ls h1 h2 h3
  have k := k H locs ls h1 h2 h3
  rw [hd.2] at k
  exact lv_lneg C.1.1 C.1.2.1 hd.1 k
theorem v_i2l (C : vC G B p m meth c cc nL ret s args own) {x : Int32} (hd : vD cc pc .i2l 1 pc')  (k : V G B p l e R s m args below meth c nL cells slots Q w pc' lv (.long x.toInt64 :: st)) : V G B p l e R s m args below meth c nL cells slots Q w pc lv (.int x :: st) := by
  intro H locs ls h1 h2 h3
  have k := k H locs ls h1 h2 h3
  rw [hd.2] at k
  exact lv_i2l C.1.1 C.1.2.1 hd.1 rfl k
theorem v_l2i (C : vC G B p m meth c cc nL ret s args own) {x : Int64} (hd : vD cc pc .l2i 1 pc')  (k : V G B p l e R s m args below meth c nL cells slots Q w pc' lv (.int x.toInt32 :: st)) : V G B p l e R s m args below meth c nL cells slots Q w pc lv (.long x :: st) := by
  intro H locs ls h1 h2 h3
  have k := k H locs ls h1 h2 h3
  rw [hd.2] at k
  exact lv_l2i C.1.1 C.1.2.1 hd.1 rfl k
theorem v_i2b (C : vC G B p m meth c cc nL ret s args own) {x : Int32} (hd : vD cc pc .i2b 1 pc')  (k : V G B p l e R s m args below meth c nL cells slots Q w pc' lv (.int x.toInt8.toInt32 :: st)) : V G B p l e R s m args below meth c nL cells slots Q w pc lv (.int x :: st) := by
  intro H locs ls h1 h2 h3
  have k := k H locs ls h1 h2 h3
  rw [hd.2] at k
  exact lv_i2b C.1.1 C.1.2.1 hd.1 rfl k
theorem v_lcmp (C : vC G B p m meth c cc nL ret s args own) {x y : Int64} (hd : vD cc pc .lcmp 1 pc')  (k : V G B p l e R s m args below meth c nL cells slots Q w pc' lv (.int (lg_cmp x y) :: st)) : V G B p l e R s m args below meth c nL cells slots Q w pc lv (.long y :: .long x :: st) := by
  intro H locs ls h1 h2 h3
  have k := k H locs ls h1 h2 h3
  rw [hd.2] at k
  exact W.lcmp C.1.1 C.1.2.1 hd.1 k
theorem v_dup (C : vC G B p m meth c cc nL ret s args own) {va : Value} (hd : vD cc pc .dup 1 pc') (hva : va.category = 1) (k : V G B p l e R s m args below meth c nL cells slots Q w pc' lv (va :: va :: st)) : V G B p l e R s m args below meth c nL cells slots Q w pc lv (va :: st) := by
  intro H locs ls h1 h2 h3
  have k := k H locs ls h1 h2 h3
  rw [hd.2] at k
  exact lv_dup C.1.1 C.1.2.1 hd.1 hva k
theorem v_pop (C : vC G B p m meth c cc nL ret s args own) {va : Value} (hd : vD cc pc .pop 1 pc') (hva : va.category = 1) (k : V G B p l e R s m args below meth c nL cells slots Q w pc' lv (st)) : V G B p l e R s m args below meth c nL cells slots Q w pc lv (va :: st) := by
  intro H locs ls h1 h2 h3
  have k := k H locs ls h1 h2 h3
  rw [hd.2] at k
  exact lv_pop C.1.1 C.1.2.1 hd.1 hva k
theorem v_dup_x1 (C : vC G B p m meth c cc nL ret s args own) {va vb : Value} (hd : vD cc pc .dup_x1 1 pc') (hva : va.category = 1) (hvb : vb.category = 1) (k : V G B p l e R s m args below meth c nL cells slots Q w pc' lv (va :: vb :: va :: st)) : V G B p l e R s m args below meth c nL cells slots Q w pc lv (va :: vb :: st) := by
  intro H locs ls h1 h2 h3
  have k := k H locs ls h1 h2 h3
  rw [hd.2] at k
  exact lv_dup_x1 C.1.1 C.1.2.1 hd.1 hva hvb k
theorem v_dup_x2 (C : vC G B p m meth c cc nL ret s args own) {va vb vc : Value} (hd : vD cc pc .dup_x2 1 pc') (hva : va.category = 1) (hvb : vb.category = 1) (hvc : vc.category = 1) (k : V G B p l e R s m args below meth c nL cells slots Q w pc' lv (va :: vb :: vc :: va :: st)) : V G B p l e R s m args below meth c nL cells slots Q w pc lv (va :: vb :: vc :: st) := by
  intro H locs ls h1 h2 h3
  have k := k H locs ls h1 h2 h3
  rw [hd.2] at k
  exact lv_dup_x2 C.1.1 C.1.2.1 hd.1 hva hvb hvc k
theorem v_dup2_11 (C : vC G B p m meth c cc nL ret s args own) {va vb : Value} (hd : vD cc pc .dup2 1 pc') (hva : va.category = 1) (hvb : vb.category = 1) (k : V G B p l e R s m args below meth c nL cells slots Q w pc' lv (va :: vb :: va :: vb :: st)) : V G B p l e R s m args below meth c nL cells slots Q w pc lv (va :: vb :: st) := by
  intro H locs ls h1 h2 h3
  have k := k H locs ls h1 h2 h3
  rw [hd.2] at k
  exact lv_dup2_11 C.1.1 C.1.2.1 hd.1 hva hvb k
theorem v_dup2_2 (C : vC G B p m meth c cc nL ret s args own) {va : Value} (hd : vD cc pc .dup2 1 pc') (hva : va.category = 2) (k : V G B p l e R s m args below meth c nL cells slots Q w pc' lv (va :: va :: st)) : V G B p l e R s m args below meth c nL cells slots Q w pc lv (va :: st) := by
  intro H locs ls h1 h2 h3
  have k := k H locs ls h1 h2 h3
  rw [hd.2] at k
  exact lv_dup2_2 C.1.1 C.1.2.1 hd.1 hva k
theorem v_if_eq (C : vC G B p m meth c cc nL ret s args own) {x : Int32} {off : Int} {tgt : Nat} (hd : vD cc pc (.ifCond .eq off) 3 pc') (ht : (pc : Int) + off = (tgt : Int)) (kt : x = 0 → V G B p l e R s m args below meth c nL cells slots Q w tgt lv st) (kf : ¬ x = 0 → V G B p l e R s m args below meth c nL cells slots Q w pc' lv st) : V G B p l e R s m args below meth c nL cells slots Q w pc lv (.int x :: st) := by
  intro H locs ls h1 h2 h3
  rw [hd.2] at kf
  exact lv_if_eq C.1.1 C.1.2.1 hd.1 ht (fun q => kt q H locs ls h1 h2 h3) (fun q => kf q H locs ls h1 h2 h3)
theorem v_icmp_eq (C : vC G B p m meth c cc nL ret s args own) {x y : Int32} {off : Int} {tgt : Nat} (hd : vD cc pc (.if_icmp .eq off) 3 pc') (ht : (pc : Int) + off = (tgt : Int)) (kt : x = y → V G B p l e R s m args below meth c nL cells slots Q w tgt lv st) (kf : ¬ x = y → V G B p l e R s m args below meth c nL cells slots Q w pc' lv st) : V G B p l e R s m args below meth c nL cells slots Q w pc lv (.int y :: .int x :: st) := by
  intro H locs ls h1 h2 h3
  rw [hd.2] at kf
  exact lv_icmp_eq C.1.1 C.1.2.1 hd.1 ht (fun q => kt q H locs ls h1 h2 h3) (fun q => kf q H locs ls h1 h2 h3)
theorem v_if_ne (C : vC G B p m meth c cc nL ret s args own) {x : Int32} {off : Int} {tgt : Nat} (hd : vD cc pc (.ifCond .ne off) 3 pc') (ht : (pc : Int) + off = (tgt : Int)) (kt : ¬ x = 0 → V G B p l e R s m args below meth c nL cells slots Q w tgt lv st) (kf : x = 0 → V G B p l e R s m args below meth c nL cells slots Q w pc' lv st) : V G B p l e R s m args below meth c nL cells slots Q w pc lv (.int x :: st) := by
  intro H locs ls h1 h2 h3
  rw [hd.2] at kf
  exact lv_if_ne C.1.1 C.1.2.1 hd.1 ht (fun q => kt q H locs ls h1 h2 h3) (fun q => kf q H locs ls h1 h2 h3)
theorem v_icmp_ne (C : vC G B p m meth c cc nL ret s args own) {x y : Int32} {off : Int} {tgt : Nat} (hd : vD cc pc (.if_icmp .ne off) 3 pc') (ht : (pc : Int) + off = (tgt : Int)) (kt : ¬ x = y → V G B p l e R s m args below meth c nL cells slots Q w tgt lv st) (kf : x = y → V G B p l e R s m args below meth c nL cells slots Q w pc' lv st) : V G B p l e R s m args below meth c nL cells slots Q w pc lv (.int y :: .int x :: st) := by
  intro H locs ls h1 h2 h3
  rw [hd.2] at kf
  exact lv_icmp_ne C.1.1 C.1.2.1 hd.1 ht (fun q => kt q H locs ls h1 h2 h3) (fun q => kf q H locs ls h1 h2 h3)
theorem v_if_lt (C : vC G B p m meth c cc nL ret s args own) {x : Int32} {off : Int} {tgt : Nat} (hd : vD cc pc (.ifCond .lt off) 3 pc') (ht : (pc : Int) + off = (tgt : Int)) (kt : x < 0 → V G B p l e R s m args below meth c nL cells slots Q w tgt lv st) (kf : ¬ x < 0 → V G B p l e R s m args below meth c nL cells slots Q w pc' lv st) : V G B p l e R s m args below meth c nL cells slots Q w pc lv (.int x :: st) := by
  intro H locs ls h1 h2 h3
  rw [hd.2] at kf
  exact lv_if_lt C.1.1 C.1.2.1 hd.1 ht (fun q => kt q H locs ls h1 h2 h3) (fun q => kf q H locs ls h1 h2 h3)
theorem v_icmp_lt (C : vC G B p m meth c cc nL ret s args own) {x y : Int32} {off : Int} {tgt : Nat} (hd : vD cc pc (.if_icmp .lt off) 3 pc') (ht : (pc : Int) + off = (tgt : Int)) (kt : x < y → V G B p l e R s m args below meth c nL cells slots Q w tgt lv st) (kf : ¬ x < y → V G B p l e R s m args below meth c nL cells slots Q w pc' lv st) : V G B p l e R s m args below meth c nL cells slots Q w pc lv (.int y :: .int x :: st) := by
  intro H locs ls h1 h2 h3
  rw [hd.2] at kf
  exact lv_icmp_lt C.1.1 C.1.2.1 hd.1 ht (fun q => kt q H locs ls h1 h2 h3) (fun q => kf q H locs ls h1 h2 h3)
theorem v_if_ge (C : vC G B p m meth c cc nL ret s args own) {x : Int32} {off : Int} {tgt : Nat} (hd : vD cc pc (.ifCond .ge off) 3 pc') (ht : (pc : Int) + off = (tgt : Int)) (kt : 0 ≤ x → V G B p l e R s m args below meth c nL cells slots Q w tgt lv st) (kf : ¬ 0 ≤ x → V G B p l e R s m args below meth c nL cells slots Q w pc' lv st) : V G B p l e R s m args below meth c nL cells slots Q w pc lv (.int x :: st) := by
  intro H locs ls h1 h2 h3
  rw [hd.2] at kf
  exact lv_if_ge C.1.1 C.1.2.1 hd.1 ht (fun q => kt q H locs ls h1 h2 h3) (fun q => kf q H locs ls h1 h2 h3)
theorem v_icmp_ge (C : vC G B p m meth c cc nL ret s args own) {x y : Int32} {off : Int} {tgt : Nat} (hd : vD cc pc (.if_icmp .ge off) 3 pc') (ht : (pc : Int) + off = (tgt : Int)) (kt : y ≤ x → V G B p l e R s m args below meth c nL cells slots Q w tgt lv st) (kf : ¬ y ≤ x → V G B p l e R s m args below meth c nL cells slots Q w pc' lv st) : V G B p l e R s m args below meth c nL cells slots Q w pc lv (.int y :: .int x :: st) := by
  intro H locs ls h1 h2 h3
  rw [hd.2] at kf
  exact lv_icmp_ge C.1.1 C.1.2.1 hd.1 ht (fun q => kt q H locs ls h1 h2 h3) (fun q => kf q H locs ls h1 h2 h3)
theorem v_if_gt (C : vC G B p m meth c cc nL ret s args own) {x : Int32} {off : Int} {tgt : Nat} (hd : vD cc pc (.ifCond .gt off) 3 pc') (ht : (pc : Int) + off = (tgt : Int)) (kt : 0 < x → V G B p l e R s m args below meth c nL cells slots Q w tgt lv st) (kf : ¬ 0 < x → V G B p l e R s m args below meth c nL cells slots Q w pc' lv st) : V G B p l e R s m args below meth c nL cells slots Q w pc lv (.int x :: st) := by
  intro H locs ls h1 h2 h3
  rw [hd.2] at kf
  exact lv_if_gt C.1.1 C.1.2.1 hd.1 ht (fun q => kt q H locs ls h1 h2 h3) (fun q => kf q H locs ls h1 h2 h3)
theorem v_icmp_gt (C : vC G B p m meth c cc nL ret s args own) {x y : Int32} {off : Int} {tgt : Nat} (hd : vD cc pc (.if_icmp .gt off) 3 pc') (ht : (pc : Int) + off = (tgt : Int)) (kt : y < x → V G B p l e R s m args below meth c nL cells slots Q w tgt lv st) (kf : ¬ y < x → V G B p l e R s m args below meth c nL cells slots Q w pc' lv st) : V G B p l e R s m args below meth c nL cells slots Q w pc lv (.int y :: .int x :: st) := by
  intro H locs ls h1 h2 h3
  rw [hd.2] at kf
  exact lv_icmp_gt C.1.1 C.1.2.1 hd.1 ht (fun q => kt q H locs ls h1 h2 h3) (fun q => kf q H locs ls h1 h2 h3)
theorem v_if_le (C : vC G B p m meth c cc nL ret s args own) {x : Int32} {off : Int} {tgt : Nat} (hd : vD cc pc (.ifCond .le off) 3 pc') (ht : (pc : Int) + off = (tgt : Int)) (kt : x ≤ 0 → V G B p l e R s m args below meth c nL cells slots Q w tgt lv st) (kf : ¬ x ≤ 0 → V G B p l e R s m args below meth c nL cells slots Q w pc' lv st) : V G B p l e R s m args below meth c nL cells slots Q w pc lv (.int x :: st) := by
  intro H locs ls h1 h2 h3
  rw [hd.2] at kf
  exact lv_if_le C.1.1 C.1.2.1 hd.1 ht (fun q => kt q H locs ls h1 h2 h3) (fun q => kf q H locs ls h1 h2 h3)
theorem v_icmp_le (C : vC G B p m meth c cc nL ret s args own) {x y : Int32} {off : Int} {tgt : Nat} (hd : vD cc pc (.if_icmp .le off) 3 pc') (ht : (pc : Int) + off = (tgt : Int)) (kt : x ≤ y → V G B p l e R s m args below meth c nL cells slots Q w tgt lv st) (kf : ¬ x ≤ y → V G B p l e R s m args below meth c nL cells slots Q w pc' lv st) : V G B p l e R s m args below meth c nL cells slots Q w pc lv (.int y :: .int x :: st) := by
  intro H locs ls h1 h2 h3
  rw [hd.2] at kf
  exact lv_icmp_le C.1.1 C.1.2.1 hd.1 ht (fun q => kt q H locs ls h1 h2 h3) (fun q => kf q H locs ls h1 h2 h3)
theorem v_goto (C : vC G B p m meth c cc nL ret s args own) {off : Int} {tgt : Nat} (hd : vD cc pc (.goto off) 3 pc') (ht : (pc : Int) + off = (tgt : Int)) (k : V G B p l e R s m args below meth c nL cells slots Q w tgt lv st) : V G B p l e R s m args below meth c nL cells slots Q w pc lv st := fun H locs ls h1 h2 h3 => lv_goto C.1.1 C.1.2.1 hd.1 ht (k H locs ls h1 h2 h3)
end VRows
end
section
section VHeap
variable {G : vG} {B : Nat} {p : Program} {l : Launch} {e : Env} {R : Room} {s : State} {m : MethodId} {args : Array Value} {below : List Frame} {meth : Method} {c : Code} {nL cells slots : Nat} {Q : State → Prop} {w : vW} {cc : ByteArray} {ret : Option FieldType} {own : String} {pc pc' : Nat} {lv : List (Nat × Value)} {st : List Value}
theorem v_bald (C : vC G B p m meth c cc nL ret s args own) {a n : Nat} {f : Nat → Int32} {i : Int32} (hd : vD cc pc .baload 1 pc') (hw : w a = some (eB G n f)) (j : Nat) (hi : i = nI j) (hj : j < n) (hn : n < 2 ^ 31) (k : V G B p l e R s m args below meth c nL cells slots Q w pc' lv (.int (f j) :: st)) : V G B p l e R s m args below meth c nL cells slots Q w pc lv (.int i :: .ref a :: st) := by
  subst hi
  intro H locs ls h1 h2 h3
  have k := k H locs ls h1 h2 h3
  rw [hd.2] at k
  obtain ⟨ws, hP, hD, hH⟩ := h1
  obtain ⟨q0, hq⟩ := hH _ _ hw
  refine va_bald C.1.1 C.1.2.1 C.2.1.1 hP q0 0 hq rfl (vp_in_nI hj hn) hd.1 ?_
  rw [nI_clamp (Nat.lt_trans hj hn)]
  exact k
theorem v_iald (C : vC G B p m meth c cc nL ret s args own) {a n : Nat} {f : Nat → Int32} {i : Int32} (hd : vD cc pc .iaload 1 pc') (hw : w a = some (eI G n f)) (j : Nat) (hi : i = nI j) (hj : j < n) (hn : n < 2 ^ 31) (k : V G B p l e R s m args below meth c nL cells slots Q w pc' lv (.int (f j) :: st)) : V G B p l e R s m args below meth c nL cells slots Q w pc lv (.int i :: .ref a :: st) := by
  subst hi
  intro H locs ls h1 h2 h3
  have k := k H locs ls h1 h2 h3
  rw [hd.2] at k
  obtain ⟨ws, hP, hD, hH⟩ := h1
  obtain ⟨q0, hq⟩ := hH _ _ hw
  refine va_iald C.1.1 C.1.2.1 C.2.1.1 hP q0 1 hq rfl (vp_in_nI hj hn) hd.1 ?_
  rw [nI_clamp (Nat.lt_trans hj hn)]
  exact k
theorem v_lald (C : vC G B p m meth c cc nL ret s args own) {a n : Nat} {f : Nat → Int64} {i : Int32} (hd : vD cc pc .laload 1 pc') (hw : w a = some (eJ G n f)) (j : Nat) (hi : i = nI j) (hj : j < n) (hn : n < 2 ^ 31) (k : V G B p l e R s m args below meth c nL cells slots Q w pc' lv (.long (f j) :: st)) : V G B p l e R s m args below meth c nL cells slots Q w pc lv (.int i :: .ref a :: st) := by
  subst hi
  intro H locs ls h1 h2 h3
  have k := k H locs ls h1 h2 h3
  rw [hd.2] at k
  obtain ⟨ws, hP, hD, hH⟩ := h1
  obtain ⟨q0, hq⟩ := hH _ _ hw
  refine va_lald C.1.1 C.1.2.1 C.2.1.1 hP q0 2 hq rfl (vp_in_nI hj hn) hd.1 ?_
  rw [nI_clamp (Nat.lt_trans hj hn)]
  exact k
theorem v_bast (C : vC G B p m meth c cc nL ret s args own) {a n : Nat} {f : Nat → Int32} {i : Int32} {x : Int32} (hd : vD cc pc .bastore 1 pc') (hw : w a = some (eB G n f)) (j : Nat) (hi : i = nI j) (hj : j < n) (hn : n < 2 ^ 31) (k : V G B p l e R s m args below meth c nL cells slots Q (vUp w a (eB G n (upd f j (vp_nar .byte x)))) pc' lv st) : V G B p l e R s m args below meth c nL cells slots Q w pc lv (.int x :: .int i :: .ref a :: st) := by
  subst hi
  intro H locs ls h1 h2 h3
  rw [hd.2] at k
  obtain ⟨ws, hP, hD, hH⟩ := h1
  obtain ⟨q0, hq⟩ := hH _ _ hw
  refine va_bast C.1.1 C.1.2.1 C.2.1.1 hP hD h2 q0 0 hq rfl (vp_in_nI hj hn) hd.1 (fun H1 locs1 hP1 hD1 hS1 => ?_)
  rw [nI_clamp (Nat.lt_trans hj hn)] at hP1 hD1
  exact k H1 locs1 ls ⟨_, hP1, hD1, hH.set hD hq⟩ hS1 h3
theorem v_iast (C : vC G B p m meth c cc nL ret s args own) {a n : Nat} {f : Nat → Int32} {i : Int32} {x : Int32} (hd : vD cc pc .iastore 1 pc') (hw : w a = some (eI G n f)) (j : Nat) (hi : i = nI j) (hj : j < n) (hn : n < 2 ^ 31) (k : V G B p l e R s m args below meth c nL cells slots Q (vUp w a (eI G n (upd f j x))) pc' lv st) : V G B p l e R s m args below meth c nL cells slots Q w pc lv (.int x :: .int i :: .ref a :: st) := by
  subst hi
  intro H locs ls h1 h2 h3
  rw [hd.2] at k
  obtain ⟨ws, hP, hD, hH⟩ := h1
  obtain ⟨q0, hq⟩ := hH _ _ hw
  refine va_iast C.1.1 C.1.2.1 C.2.1.1 hP hD h2 q0 1 hq rfl (vp_in_nI hj hn) hd.1 (fun H1 locs1 hP1 hD1 hS1 => ?_)
  rw [nI_clamp (Nat.lt_trans hj hn)] at hP1 hD1
  exact k H1 locs1 ls ⟨_, hP1, hD1, hH.set hD hq⟩ hS1 h3
theorem v_last (C : vC G B p m meth c cc nL ret s args own) {a n : Nat} {f : Nat → Int64} {i : Int32} {x : Int64} (hd : vD cc pc .lastore 1 pc') (hw : w a = some (eJ G n f)) (j : Nat) (hi : i = nI j) (hj : j < n) (hn : n < 2 ^ 31) (k : V G B p l e R s m args below meth c nL cells slots Q (vUp w a (eJ G n (vp_updL f j x))) pc' lv st) : V G B p l e R s m args below meth c nL cells slots Q w pc lv (.long x :: .int i :: .ref a :: st) := by
  subst hi
  intro H locs ls h1 h2 h3
  rw [hd.2] at k
  obtain ⟨ws, hP, hD, hH⟩ := h1
  obtain ⟨q0, hq⟩ := hH _ _ hw
  refine va_last C.1.1 C.1.2.1 C.2.1.1 hP hD h2 q0 2 hq rfl (vp_in_nI hj hn) hd.1 (fun H1 locs1 hP1 hD1 hS1 => ?_)
  rw [nI_clamp (Nat.lt_trans hj hn)] at hP1 hD1
  exact k H1 locs1 ls ⟨_, hP1, hD1, hH.set hD hq⟩ hS1 h3
theorem v_alenB (C : vC G B p m meth c cc nL ret s args own) {a n : Nat} {f : Nat → Int32} (hd : vD cc pc .arraylength 1 pc') (hw : w a = some (eB G n f)) (k : V G B p l e R s m args below meth c nL cells slots Q w pc' lv (.int (nI n) :: st)) : V G B p l e R s m args below meth c nL cells slots Q w pc lv (.ref a :: st) := by
  intro H locs ls h1 h2 h3
  have k := k H locs ls h1 h2 h3
  rw [hd.2] at k
  obtain ⟨ws, hP, hD, hH⟩ := h1
  obtain ⟨q0, hq⟩ := hH _ _ hw
  exact va_alen C.1.1 C.1.2.1 C.2.1.1 hP q0 0 hq rfl rfl hd.1 k
theorem v_alenI (C : vC G B p m meth c cc nL ret s args own) {a n : Nat} {f : Nat → Int32} (hd : vD cc pc .arraylength 1 pc') (hw : w a = some (eI G n f)) (k : V G B p l e R s m args below meth c nL cells slots Q w pc' lv (.int (nI n) :: st)) : V G B p l e R s m args below meth c nL cells slots Q w pc lv (.ref a :: st) := by
  intro H locs ls h1 h2 h3
  have k := k H locs ls h1 h2 h3
  rw [hd.2] at k
  obtain ⟨ws, hP, hD, hH⟩ := h1
  obtain ⟨q0, hq⟩ := hH _ _ hw
  exact va_alen C.1.1 C.1.2.1 C.2.1.1 hP q0 1 hq rfl rfl hd.1 k
theorem v_alenJ (C : vC G B p m meth c cc nL ret s args own) {a n : Nat} {f : Nat → Int64} (hd : vD cc pc .arraylength 1 pc') (hw : w a = some (eJ G n f)) (k : V G B p l e R s m args below meth c nL cells slots Q w pc' lv (.int (nI n) :: st)) : V G B p l e R s m args below meth c nL cells slots Q w pc lv (.ref a :: st) := by
  intro H locs ls h1 h2 h3
  have k := k H locs ls h1 h2 h3
  rw [hd.2] at k
  obtain ⟨ws, hP, hD, hH⟩ := h1
  obtain ⟨q0, hq⟩ := hH _ _ hw
  exact va_alen C.1.1 C.1.2.1 C.2.1.1 hP q0 2 hq rfl rfl hd.1 k
theorem v_get (C : vC G B p m meth c cc nL ret s args own) {a ci index k0 : Nat} {fs : List Value} {v : Value} (hf : vFld own index ci k0) (hd : vD cc pc (.getfield index) 3 pc') (hw : w a = some (eO ci fs)) (hv : fs[k0]? = some v) (k : V G B p l e R s m args below meth c nL cells slots Q w pc' lv (v :: st)) : V G B p l e R s m args below meth c nL cells slots Q w pc lv (.ref a :: st) := by
  intro H locs ls h1 h2 h3
  have k := k H locs ls h1 h2 h3
  rw [hd.2] at k
  obtain ⟨ws, hP, hD, hH⟩ := h1
  obtain ⟨q0, hq⟩ := hH _ _ hw
  obtain ⟨Cn, T, N, ref, host, hc, hk, hin, hlink, hsame⟩ := hf
  have hS : ∀ x, s.fieldFound? (T k0).1 (T k0).2.1 (T k0).2.2.1 = some x → s.fieldFound? ref (T k0).2.1 (T k0).2.2.1 = some x := by
    rcases hsame with h | h
    · intro x hx; rw [h]; exact hx
    · exact fun x hx => u_same (C.1.2.2.2.2 _ h) x hx
  rcases hlink with h | h
  · exact va_get C.1.1 C.1.2.1 C.1.2.2.2.2 hin C.1.2.2.2.1 C.2.1.1 hP q0 hq hc k0 hk (C.1.2.2.2.2 _ h) hS hv hd.1 k
  · exact va_getN C.1.1 C.1.2.1 C.1.2.2.2.2 hin C.1.2.2.2.1 C.2.1.1 hP q0 hq hc k0 hk (va_Nw.use rfl (C.2.1.2.2.1 _ h)) hS hv hd.1 k
theorem v_put (C : vC G B p m meth c cc nL ret s args own) {a ci index k0 : Nat} {fs : List Value} {v : Value} {ty : FieldType} (hf : vFldP own index ci k0 ty) (hd : vD cc pc (.putfield index) 3 pc') (hw : w a = some (eO ci fs)) (hn : narrow ty v = v) (hfit : fits ty v = true) (hl : k0 < fs.length) (k : V G B p l e R s m args below meth c nL cells slots Q (vUp w a (eO ci (fs.set k0 v))) pc' lv st) : V G B p l e R s m args below meth c nL cells slots Q w pc lv (v :: .ref a :: st) := by
  intro H locs ls h1 h2 h3
  rw [hd.2] at k
  obtain ⟨ws, hP, hD, hH⟩ := h1
  obtain ⟨q0, hq⟩ := hH _ _ hw
  obtain ⟨Cn, T, N, ref, host, ty0, hc, hk, hin, hlink, hsame, hty, hnm, hfin, hpd⟩ := hf
  have hS : ∀ x, s.fieldFound? (T k0).1 (T k0).2.1 (T k0).2.2.1 = some x → s.fieldFound? ref (T k0).2.1 (T k0).2.2.1 = some x := by
    rcases hsame with h | h
    · intro x hx; rw [h]; exact hx
    · exact fun x hx => u_same (C.1.2.2.2.2 _ h) x hx
  rcases hlink with h | h
  · exact va_put C.1.1 C.1.2.1 C.1.2.2.2.2 hin ty0 hty hnm C.1.2.2.2.1 C.2.1.1 hP hD h2 q0 hq hc k0 hk (C.1.2.2.2.2 _ h) hS hfin hpd hn hfit hl hd.1 (fun H1 locs1 hP1 hD1 hS1 => k H1 locs1 ls ⟨_, hP1, hD1, hH.set hD hq⟩ hS1 h3)
  · exact va_putN C.1.1 C.1.2.1 C.1.2.2.2.2 hin ty0 hty hnm C.1.2.2.2.1 C.2.1.1 hP hD h2 q0 hq hc k0 hk (va_Nw.use rfl (C.2.1.2.2.1 _ h)) hS hfin hpd hn hfit hl hd.1 (fun H1 locs1 hP1 hD1 hS1 => k H1 locs1 ls ⟨_, hP1, hD1, hH.set hD hq⟩ hS1 h3)
theorem v_topi {x : Int32} (k : ∀ y : Int32, y = x → V G B p l e R s m args below meth c nL cells slots Q w pc lv (.int y :: st)) : V G B p l e R s m args below meth c nL cells slots Q w pc lv (.int x :: st) := k x rfl
theorem v_topl {x : Int64} (k : ∀ y : Int64, y = x → V G B p l e R s m args below meth c nL cells slots Q w pc lv (.long y :: st)) : V G B p l e R s m args below meth c nL cells slots Q w pc lv (.long x :: st) := k x rfl
theorem v_eq {lv' : List (Nat × Value)} {st' : List Value} {w' : vW} (h1 : w = w') (h2 : lv = lv') (h3 : st = st') (k : V G B p l e R s m args below meth c nL cells slots Q w' pc lv' st') : V G B p l e R s m args below meth c nL cells slots Q w pc lv st := by subst h1; subst h2; subst h3; exact k
theorem v_sub {w' : vW} (hw : ∀ a e, w' a = some e → w a = some e) (k : V G B p l e R s m args below meth c nL cells slots Q w' pc lv st) : V G B p l e R s m args below meth c nL cells slots Q w pc lv st := fun H locs ls h1 h2 h3 => k H locs ls (h1.sub hw) h2 h3
theorem v_pick {lv' : List (Nat × Value)} (ks : List Nat) (hl : lv_pick lv ks = lv') (k : V G B p l e R s m args below meth c nL cells slots Q w pc lv' st) : V G B p l e R s m args below meth c nL cells slots Q w pc lv st := fun H locs ls h1 h2 h3 => k H locs ls h1 h2 (lv_sub h3 ks hl)
theorem v_wide {k n : Nat} (h1 : cells ≤ k) (h2 : slots ≤ n) (kk : V G B p l e R s m args below meth c nL k n Q w pc lv st) : V G B p l e R s m args below meth c nL cells slots Q w pc lv st := fun H locs ls a1 a2 a3 => W.widen h1 h2 (kk H locs ls a1 a2 a3)
theorem v_iret (C : vC G B p m meth c cc nL ret s args own) (hret : ret = (some .int)) {v : Int32} {post : Option Value → vW → Prop} (hd : vD cc pc .ireturn 1 pc') (hp : post (some (.int v)) w) : V G B p l e R s m args below meth c nL cells slots (MQ below (vQ G B post) args s cells slots (fun q => B ≤ q)) w pc lv [.int v] := fun H locs ls h1 h2 h3 => W.iret C.1.1 C.1.2.1 (C.2.2.1.trans hret) (fun t ht hW => ⟨⟨_, w, rfl, hp, by rw [ht]; exact h1⟩, h2.F ht⟩) h2.2.2 hd.1 C.2.2.2
theorem v_lret (C : vC G B p m meth c cc nL ret s args own) (hret : ret = (some .long)) {v : Int64} {post : Option Value → vW → Prop} (hd : vD cc pc .lreturn 1 pc') (hp : post (some (.long v)) w) : V G B p l e R s m args below meth c nL cells slots (MQ below (vQ G B post) args s cells slots (fun q => B ≤ q)) w pc lv [.long v] := fun H locs ls h1 h2 h3 => W.lret C.1.1 C.1.2.1 (C.2.2.1.trans hret) (fun t ht hW => ⟨⟨_, w, rfl, hp, by rw [ht]; exact h1⟩, h2.F ht⟩) h2.2.2 hd.1 C.2.2.2
theorem v_zret (C : vC G B p m meth c cc nL ret s args own) {ty : FieldType} (hret : ret = some ty) {v : Int32} {post : Option Value → vW → Prop} (hn : narrow ty (.int v) = .int v) (hd : vD cc pc .ireturn 1 pc') (hp : post (some (.int v)) w) : V G B p l e R s m args below meth c nL cells slots (MQ below (vQ G B post) args s cells slots (fun q => B ≤ q)) w pc lv [.int v] := fun H locs ls h1 h2 h3 => W.zret C.1.1 C.1.2.1 (C.2.2.1.trans hret) hn (fun t ht hW => ⟨⟨_, w, rfl, hp, by rw [ht]; exact h1⟩, h2.F ht⟩) h2.2.2 hd.1 C.2.2.2
theorem v_aret (C : vC G B p m meth c cc nL ret s args own) {ty : FieldType} (hret : ret = some ty) (hty : (∃ n, ty = .object n) ∨ ∃ t, ty = .array t) {a : Nat} {post : Option Value → vW → Prop} (hd : vD cc pc .areturn 1 pc') (hp : post (some (.ref a)) w) : V G B p l e R s m args below meth c nL cells slots (MQ below (vQ G B post) args s cells slots (fun q => B ≤ q)) w pc lv [.ref a] := fun H locs ls h1 h2 h3 => W.aret C.1.1 C.1.2.1 (C.2.2.1.trans hret) hty (Or.inr ⟨a, rfl⟩) (fun t ht hW => ⟨⟨_, w, rfl, hp, by rw [ht]; exact h1⟩, h2.F ht⟩) h2.2.2 hd.1 C.2.2.2
theorem v_vret (C : vC G B p m meth c cc nL ret s args own) (hret : ret = none) {post : Option Value → vW → Prop} (hd : vD cc pc .return_ 1 pc') (hp : post none w) : V G B p l e R s m args below meth c nL cells slots (MQ below (vQ G B post) args s cells slots (fun q => B ≤ q)) w pc lv [] := fun H locs ls h1 h2 h3 => W.vret C.1.1 C.1.2.1 (C.2.2.1.trans hret) (fun t ht hW => ⟨⟨_, w, rfl, hp, by rw [ht]; exact h1⟩, h2.F ht⟩) h2.2.2 hd.1 C.2.2.2
theorem vOk.of {y : MethodName} {bytes : ByteArray} {maxL d mc ms : Nat} {av : List Value} {post : Option Value → vW → Prop} (hy : plainName y.cls = true) (hlen : (lg_sl av).length ≤ maxL)
    (h : ∀ (p : Program) (e : Env) (s : State) (m : MethodId) (args : Array Value) (below : List Frame) (meth : Method) (c : Code), vC G B p m meth c bytes maxL ret s args y.cls → V G B p l e (vRm d mc ms) s m args below meth c maxL 0 0 (MQ below (vQ G B post) args s mc ms (fun q => B ≤ q)) w 0 (lv_args 0 av) []) : vOk G B l y bytes maxL ret d mc ms av w post := by
  refine Met.ofW (cc := bytes) (maxL := maxL) (ret := ret) hy rfl ?_
  intro p e s m args below meth c s₁ Bd hml hv
  obtain ⟨rfl, hE, hW⟩ := hv
  have hts := atoms_spec (ws := Cond.code y bytes maxL ret :: vGW) Bd.pre
  have hown : s.vm.findClass y.cls = some m.cls := findClass_of_methodNamed Bd.named
  have C : vC G B p m meth c bytes maxL ret s av.toArray y.cls := ⟨⟨Bd.exec, Bd.bytes, hml, hown, fun w h => hts w (List.mem_cons_of_mem _ h)⟩, hE, Bd.returns, Bd.notSynchronized⟩
  rw [lg_entry_eq]
  exact h p e s m _ below meth c C s.heap [] _ hW va_S.rf (lv_entry av hlen)
theorem v_cont {mc ms : Nat} {st0 rest : List Value} {a : Array Value} {post : Option Value → vW → Prop} (hr : ∀ (H : Heap) (locs : List Loc) (ls : Array Slot), vHolds G B w H → va_S (fun q => B ≤ q) s.heap H locs → lv_has ls nL lv → va_Run p l e R s m args below meth c H locs cells slots mc ms (F0 m pc ls st0) rest (vQ G B post a) (fun q => B ≤ q))
    (kk : ∀ (r : Option Value) (w' : vW), post r w' → V G B p l e R s m args below meth c nL (cells + mc) (slots + ms) Q w' (pc + 3) lv (r.toList ++ rest)) : V G B p l e R s m args below meth c nL cells slots Q w pc lv st0 := by
  intro H locs ls h1 h2 h3 T hT X
  obtain ⟨v, st₀, t, T', L, h0, X', hL, e1, e2, ⟨⟨r, w', hv, hp, hb⟩, hz, hk⟩, stp⟩ := hr H locs ls h1 h2 h3 T hT X
  cases hv
  rw [h0] at hz hk
  obtain ⟨t2, a1, b1⟩ := kk v w' hp T'.heap (locs ++ L) ls (by rw [e1]; exact hb) ⟨Nat.le_trans h2.1 (by rw [e1]; exact hz), fun q q1 q2 => by rw [e1, hk q (Nat.lt_of_lt_of_le q1 h2.1) q2]; exact h2.2.1 q q1 q2, fun q hq => by
      rcases List.mem_append.mp hq with h | h
      · exact h2.2.2 q h
      · exact hL q h⟩ h3 T' rfl X'
  exact ⟨t2, stp t2 a1, b1⟩
theorem vBlind {av : List Value} : FrameBlind (va_Pc av (fun U => vEnv G B U ∧ vHolds G B w U.heap)) := fun a U g mk q => ⟨q.1, q.2.1.blind, q.2.2⟩
theorem vPre {H : Heap} {locs : List Loc} {av : List Value} (hE : vEnv G B s) (h1 : vHolds G B w H) (h2 : va_S (fun q => B ≤ q) s.heap H locs) : PreS s H (va_Pc av (fun U => vEnv G B U ∧ vHolds G B w U.heap)) av := ⟨vBlind, fun U hU hW => ⟨rfl, hE.carry h2 hU hW, by rw [hU]; exact h1⟩⟩
theorem vPreV {H : Heap} {locs : List Loc} {b ci : Nat} {fs As : List Value} {q : vw_C} (hE : vEnv G B s) (h1 : vHolds G B w H) (h2 : va_S (fun q => B ≤ q) s.heap H locs) (hw : w b = some (eO ci fs)) (hc : vCl[ci]? = some q) : PreV s H q.1 b (va_Pc (.ref b :: As) (fun U => vEnv G B U ∧ vHolds G B w U.heap)) As := by
  refine ⟨vBlind, ?_, fun U hU hW => ⟨rfl, hE.carry h2 hU hW, by rw [hU]; exact h1⟩⟩
  obtain ⟨ws, hP, hD, hH⟩ := h1
  obtain ⟨q0, hq⟩ := hH _ _ hw
  exact va_recv hE.1 hP hc hq
theorem vGood {y : MethodName} {bytes : ByteArray} {maxL : Nat} {rt : Option FieldType} (h : Cond.code y bytes maxL rt ∈ vGW) : GoodIn vGW (Cond.code y bytes maxL rt :: vGW) := by
  intro w hw
  rcases List.mem_cons.mp hw with rfl | h2
  · exact ⟨h, vGW_ok _ h⟩
  · exact ⟨h2, vGW_ok _ h2⟩
theorem vRm_fit {d d1 mc ms mc1 ms1 maxL : Nat} (h : d + 1 ≤ d1) (hl : maxL ≤ 60) : (vRm d mc ms).frames + 1 ≤ (vRm d1 mc1 ms1).frames ∧ 8 + (maxL + 11) + (vRm d mc ms).locals ≤ (vRm d1 mc1 ms1).locals := by
  refine ⟨h, ?_⟩
  show 8 + (maxL + 11) + 100 * d ≤ 100 * d1
  omega
theorem v_callS (C : vC G B p m meth c cc nL ret s args own) {index n maxL d mc ms d1 mc1 ms1 : Nat} {y : MethodName} {bytes : ByteArray} {rt : Option FieldType} {av rest : List Value} {post : Option Value → vW → Prop} (hm : vLS own index y bytes maxL rt n) (hok : vOk G B l y bytes maxL rt d mc ms av w post) (hR : R = vRm d1 mc1 ms1) (hdd : d + 1 ≤ d1) (hml : maxL ≤ 60) (hrm : cells + mc ≤ mc1 ∧ slots + ms ≤ ms1) (hn : av.length = n) (hst : st = av.reverse ++ rest) (hroom : (rest.map fun v => v.category).sum ≤ 8) (hd : vD cc pc (.invokestatic index) 3 pc') (k : ∀ (r : Option Value) (w' : vW), post r w' → V G B p l e R s m args below meth c nL (cells + mc) (slots + ms) Q w' pc' lv (r.toList ++ rest)) : V G B p l e R s m args below meth c nL cells slots Q w pc lv st := by
  subst hst; subst hR
  obtain ⟨hlink, hstat, hini, hcode, hcls, hpar⟩ := hm
  rw [hd.2] at k
  refine v_cont (mc := mc) (ms := ms) (rest := rest) (post := post) (a := av.toArray) (fun H locs ls h1 h2 h3 => ?_) k
  rcases hlink with h | ⟨host, h⟩
  · exact va_runS C.1 hok ⟨callB_of n C.1.2.2.2.2 (vGood hcode) rfl rfl rfl (C.1.2.2.2.2 _ hini) (C.1.2.2.2.2 _ h) ⟨hcls.1, hcls.2, hpar⟩ (vRm_fit hdd hml), C.1.2.2.2.2 _ hstat⟩ (vPre C.2.1 h1 h2) rfl hn h3.1 rfl (lv_room hroom) hd.1 hrm
  · exact va_runSN C.1 hok ⟨va_cnB n C.1.2.2.2.2 (vGood hcode) rfl rfl rfl (C.2.1.2.2.1 _ h) (C.1.2.2.2.2 _ hini) ⟨hcls.1, hcls.2, hpar⟩ (vRm_fit hdd hml), C.1.2.2.2.2 _ hstat, trivial⟩ (vPre C.2.1 h1 h2) rfl hn h3.1 rfl (lv_room hroom) hd.1 hrm
theorem v_callV (C : vC G B p m meth c cc nL ret s args own) {index n maxL d mc ms d1 mc1 ms1 : Nat} {y : MethodName} {bytes : ByteArray} {rt : Option FieldType} {As rest fs : List Value} {b ci : Nat} {post : Option Value → vW → Prop} (hm : vLV own index y bytes maxL rt n ci) (hok : vOk G B l y bytes maxL rt d mc ms (.ref b :: As) w post) (hw : w b = some (eO ci fs)) (hR : R = vRm d1 mc1 ms1) (hdd : d + 1 ≤ d1) (hml : maxL ≤ 60) (hrm : cells + mc ≤ mc1 ∧ slots + ms ≤ ms1) (hn : As.length = n) (hst : st = As.reverse ++ .ref b :: rest) (hroom : (rest.map fun v => v.category).sum ≤ 8) (hd : vD cc pc (.invokevirtual index) 3 pc') (k : ∀ (r : Option Value) (w' : vW), post r w' → V G B p l e R s m args below meth c nL (cells + mc) (slots + ms) Q w' pc' lv (r.toList ++ rest)) : V G B p l e R s m args below meth c nL cells slots Q w pc lv st := by
  subst hst; subst hR
  obtain ⟨⟨q, hc, hq⟩, hlink, hinst, hsel, hini, hcode, hcls, hpar⟩ := hm
  rw [hd.2] at k
  refine v_cont (mc := mc) (ms := ms) (rest := rest) (post := post) (a := (Value.ref b :: As).toArray) (fun H locs ls h1 h2 h3 => ?_) k
  have hpre := vPreV (As := As) C.2.1 h1 h2 hw hc
  rw [hq] at hpre
  rcases hlink with h | ⟨host, h⟩
  · exact va_runV C.1 hok ⟨callB_of n C.1.2.2.2.2 (vGood hcode) rfl rfl rfl (C.1.2.2.2.2 _ hini) (C.1.2.2.2.2 _ h) ⟨hcls.1, hcls.2, hpar⟩ (vRm_fit hdd hml), C.1.2.2.2.2 _ hinst, C.1.2.2.2.2 _ hsel⟩ hpre rfl hn h3.1 rfl (lv_room hroom) hd.1 hrm
  · exact va_runVN C.1 hok ⟨va_cnB n C.1.2.2.2.2 (vGood hcode) rfl rfl rfl (C.2.1.2.2.1 _ h) (C.1.2.2.2.2 _ hini) ⟨hcls.1, hcls.2, hpar⟩ (vRm_fit hdd hml), C.1.2.2.2.2 _ hinst, C.1.2.2.2.2 _ hsel⟩ hpre rfl hn h3.1 rfl (lv_room hroom) hd.1 hrm
theorem v_callI (C : vC G B p m meth c cc nL ret s args own) {index n maxL d mc ms d1 mc1 ms1 : Nat} {y : MethodName} {bytes : ByteArray} {rt : Option FieldType} {As rest : List Value} {b : Nat} {post : Option Value → vW → Prop} (hm : vLI own index y bytes maxL n) (hok : vOk G B l y bytes maxL none d mc ms (.ref b :: As) w post) (hR : R = vRm d1 mc1 ms1) (hdd : d + 1 ≤ d1) (hml : maxL ≤ 60) (hrm : cells + mc ≤ mc1 ∧ slots + ms ≤ ms1) (hn : As.length = n) (hst : st = As.reverse ++ .ref b :: rest) (hroom : (rest.map fun v => v.category).sum ≤ 8) (hd : vD cc pc (.invokespecial index) 3 pc') (k : ∀ (r : Option Value) (w' : vW), post r w' → V G B p l e R s m args below meth c nL (cells + mc) (slots + ms) Q w' pc' lv (r.toList ++ rest)) : V G B p l e R s m args below meth c nL cells slots Q w pc lv st := by
  subst hst; subst hR
  obtain ⟨hlink, hinst, hini, hcode, hname, hcls, hpar⟩ := hm
  rw [hd.2] at k
  refine v_cont (mc := mc) (ms := ms) (rest := rest) (post := post) (a := (Value.ref b :: As).toArray) (fun H locs ls h1 h2 h3 => ?_) k
  rcases hlink with h | ⟨host, h⟩
  · exact va_runI C.1 hok ⟨callB_of n C.1.2.2.2.2 (vGood hcode) rfl rfl rfl (C.1.2.2.2.2 _ hini) (C.1.2.2.2.2 _ h) ⟨hcls.1, hcls.2, hpar⟩ (vRm_fit hdd hml), hname, C.1.2.2.2.2 _ hinst⟩ (vPre C.2.1 h1 h2) rfl hn h3.1 rfl (lv_room hroom) hd.1 hrm
  · exact va_runIN C.1 hok ⟨va_cnB n C.1.2.2.2.2 (vGood hcode) rfl rfl rfl (C.2.1.2.2.1 _ h) (C.1.2.2.2.2 _ hini) ⟨hcls.1, hcls.2, hpar⟩ (vRm_fit hdd hml), hname, C.1.2.2.2.2 _ hinst⟩ (vPre C.2.1 h1 h2) rfl hn h3.1 rfl (lv_room hroom) hd.1 hrm
theorem v_callU (C : vC G B p m meth c cc nL ret s args own) {index n maxL d mc ms d1 mc1 ms1 : Nat} {y : MethodName} {bytes : ByteArray} {rt : Option FieldType} {x : MethodName} {As rest fs : List Value} {b ci : Nat} {post : Option Value → vW → Prop} (hm : vLU own index x y bytes maxL rt n ci) (hok : vOk G B l y bytes maxL rt d mc ms (.ref b :: As) w post) (hw : w b = some (eO ci fs)) (hR : R = vRm d1 mc1 ms1) (hdd : d + 1 ≤ d1) (hml : maxL ≤ 60) (hrm : cells + mc ≤ mc1 ∧ slots + ms ≤ ms1) (hn : As.length = n) (hst : st = As.reverse ++ .ref b :: rest) (hroom : (rest.map fun v => v.category).sum ≤ 8) (hd : vD cc pc (.invokevirtual index) 3 pc') (k : ∀ (r : Option Value) (w' : vW), post r w' → V G B p l e R s m args below meth c nL (cells + mc) (slots + ms) Q w' pc' lv (r.toList ++ rest)) : V G B p l e R s m args below meth c nL cells slots Q w pc lv st := by
  subst hst; subst hR
  obtain ⟨q, owner, hc, hlink, hsame, hdecl, hsel, hinst, hini, hcode, hcls, hpar⟩ := hm
  rw [hd.2] at k
  refine v_cont (mc := mc) (ms := ms) (rest := rest) (post := post) (a := (Value.ref b :: As).toArray) (fun H locs ls h1 h2 h3 => ?_) k
  have hpre := vPreV (As := As) C.2.1 h1 h2 hw hc
  have hdc : va_Decl s ⟨owner, x.name, x.desc⟩ := by
    rcases hdecl with h | ⟨b0, m0, r0, h, h0⟩
    · exact va_Decl.abs (C.2.1.2.2.1 _ h)
    · exact va_Decl.of (C.1.2.2.2.2 _ h) (C.1.2.2.2.2 _ h0)
  have hG := vGood hcode
  refine va_runU C.1 hok ⟨⟨rfl, rfl, (vRm_fit hdd hml).1, (vRm_fit hdd hml).2, pay_in C.1.2.2.2.2 hG, List.mem_cons_self⟩, C.1.2.2.2.2 _ hcode, C.1.2.2.2.2 _ hini, hcls, fun sig h => ?_, C.1.2.2.2.2 _ hlink, C.1.2.2.2.2 _ hsame, hdc, C.1.2.2.2.2 _ hsel, C.1.2.2.2.2 _ hinst⟩ hpre rfl hn h3.1 rfl (lv_room hroom) hd.1 hrm
  have hp2 : (parseMethodDescriptor x.desc).map (fun d => d.parameters.length) = some n := hpar
  rw [h] at hp2
  exact (Option.some.inj hp2).symm
theorem v_copyB (C : vC G B p m meth c cc nL ret s args own) {index a0 a n0 n1 d1 mc1 ms1 : Nat} {f g : Nat → Int32} {i1 i2 i3 : Int32} (hl : Cond.methodLink own index arraycopyName ∈ vGW) (hd : vD cc pc (.invokestatic index) 3 pc') (hs : w a0 = some (eB G n0 f)) (ht : w a = some (eB G n1 g)) (sp dp n : Nat) (e1 : i1 = nI sp) (e2 : i2 = nI dp) (e3 : i3 = nI n) (h4 : sp + n ≤ n0) (h5 : dp + n ≤ n1) (hn0 : n0 < 2 ^ 31) (hn1 : n1 < 2 ^ 31) (hfit : ∀ i, i < n → fits .byte (.int (f (sp + i))) = true) (hR : R = vRm d1 mc1 ms1) (hd1 : 1 ≤ d1) (hroom : (st.map fun v => v.category).sum ≤ 8) (k : V G B p l e R s m args below meth c nL cells slots Q (vUp w a (eB G n1 (va_cpy f g sp dp n))) pc' lv st) : V G B p l e R s m args below meth c nL cells slots Q w pc lv (.int i3 :: .int i2 :: .ref a :: .int i1 :: .ref a0 :: st) := by
  subst e1; subst e2; subst e3; subst hR
  intro H locs ls h1 h2 h3
  rw [hd.2] at k
  obtain ⟨ws, hP, hD, hH⟩ := h1
  obtain ⟨q0, hq0⟩ := hH _ _ hs
  obtain ⟨q1, hq1⟩ := hH _ _ ht
  have hw80 : nativeFrameWords "java/lang/System" "arraycopy" 5 + 11 ≤ 80 := by decide +kernel
  have hlb : (st.map fun v => v.category).sum + (nativeFrameWords "java/lang/System" "arraycopy" 5 + 11) ≤ (vRm d1 mc1 ms1).locals := by
    show _ ≤ 100 * d1
    omega
  have c1 : (nI sp).toNatClampNeg = sp := nI_clamp (by omega)
  have c2 : (nI dp).toNatClampNeg = dp := nI_clamp (by omega)
  have c3 : (nI n).toNatClampNeg = n := nI_clamp (by omega)
  refine va_copyi C.1.1 C.1.2.1 (C.1.2.2.1.trans h3.1.symm) C.1.2.2.2.1 (C.1.2.2.2.2 _ hl) (C.1.2.2.2.2 _ vw_cpyN) (C.1.2.2.2.2 _ vw_cpyS) (C.1.2.2.2.2 _ vw_cpyI) C.2.1.1 hP hD h2 q0 q1 0 0 hq0 hq1 rfl rfl rfl (nI_pos (by omega)) (nI_pos (by omega)) (nI_pos (by omega)) (by rw [c1, c3]; exact h4) (by rw [c2, c3]; exact h5) (by rw [c1, c3]; exact hfit) hd1 hlb hd.1 (fun H1 locs1 hP1 hD1 hS1 => ?_)
  rw [c1, c2, c3] at hP1 hD1
  exact k H1 locs1 ls ⟨_, hP1, hD1, hH.set hD hq1⟩ hS1 h3
theorem v_copyJ (C : vC G B p m meth c cc nL ret s args own) {index a0 a n0 n1 d1 mc1 ms1 : Nat} {f g : Nat → Int64} {i1 i2 i3 : Int32} (hl : Cond.methodLink own index arraycopyName ∈ vGW) (hd : vD cc pc (.invokestatic index) 3 pc') (hs : w a0 = some (eJ G n0 f)) (ht : w a = some (eJ G n1 g)) (sp dp n : Nat) (e1 : i1 = nI sp) (e2 : i2 = nI dp) (e3 : i3 = nI n) (h4 : sp + n ≤ n0) (h5 : dp + n ≤ n1) (hn0 : n0 < 2 ^ 31) (hn1 : n1 < 2 ^ 31) (hR : R = vRm d1 mc1 ms1) (hd1 : 1 ≤ d1) (hroom : (st.map fun v => v.category).sum ≤ 8) (k : V G B p l e R s m args below meth c nL cells slots Q (vUp w a (eJ G n1 (va_cpy f g sp dp n))) pc' lv st) : V G B p l e R s m args below meth c nL cells slots Q w pc lv (.int i3 :: .int i2 :: .ref a :: .int i1 :: .ref a0 :: st) := by
  subst e1; subst e2; subst e3; subst hR
  intro H locs ls h1 h2 h3
  rw [hd.2] at k
  obtain ⟨ws, hP, hD, hH⟩ := h1
  obtain ⟨q0, hq0⟩ := hH _ _ hs
  obtain ⟨q1, hq1⟩ := hH _ _ ht
  have hw80 : nativeFrameWords "java/lang/System" "arraycopy" 5 + 11 ≤ 80 := by decide +kernel
  have hlb : (st.map fun v => v.category).sum + (nativeFrameWords "java/lang/System" "arraycopy" 5 + 11) ≤ (vRm d1 mc1 ms1).locals := by
    show _ ≤ 100 * d1
    omega
  have c1 : (nI sp).toNatClampNeg = sp := nI_clamp (by omega)
  have c2 : (nI dp).toNatClampNeg = dp := nI_clamp (by omega)
  have c3 : (nI n).toNatClampNeg = n := nI_clamp (by omega)
  refine va_copyl C.1.1 C.1.2.1 (C.1.2.2.1.trans h3.1.symm) C.1.2.2.2.1 (C.1.2.2.2.2 _ hl) (C.1.2.2.2.2 _ vw_cpyN) (C.1.2.2.2.2 _ vw_cpyS) (C.1.2.2.2.2 _ vw_cpyI) C.2.1.1 hP hD h2 q0 q1 2 2 hq0 hq1 rfl rfl rfl (nI_pos (by omega)) (nI_pos (by omega)) (nI_pos (by omega)) (by rw [c1, c3]; exact h4) (by rw [c2, c3]; exact h5) (fun _ _ => rfl) hd1 hlb hd.1 (fun H1 locs1 hP1 hD1 hS1 => ?_)
  rw [c1, c2, c3] at hP1 hD1
  exact k H1 locs1 ls ⟨_, hP1, hD1, hH.set hD hq1⟩ hS1 h3
theorem v_gen {a : Nat} {e' : va_E} (k : ∀ w' : vW, w' a = some e' → (∀ q, q ≠ a → w' q = w q) → V G B p l e R s m args below meth c nL cells slots Q w' pc lv st) : V G B p l e R s m args below meth c nL cells slots Q (vUp w a e') pc lv st := k _ vUp_self (fun q h => vUp_ne h)
end VHeap
end
