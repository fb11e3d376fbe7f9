set_option maxRecDepth 100000 in
theorem ivw_X0 : ∀ w ∈ wsX00, w ∈ vGW := fun w h => by
  have q := List.all_eq_true.mp (show (wsX00).all (fun w => decide (w ∈ tables_1) && goodWord w) = true from by decide +kernel) w h
  rw [Bool.and_eq_true, decide_eq_true_eq] at q
  exact List.mem_filter.mpr ⟨List.mem_append_right _ q.1, q.2⟩
set_option maxRecDepth 100000 in
theorem ivw_X1 : ∀ w ∈ wsX10, w ∈ vGW := fun w h => by
  have q := List.all_eq_true.mp (show (wsX10).all (fun w => decide (w ∈ tables_1) && goodWord w) = true from by decide +kernel) w h
  rw [Bool.and_eq_true, decide_eq_true_eq] at q
  exact List.mem_filter.mpr ⟨List.mem_append_right _ q.1, q.2⟩
set_option maxRecDepth 100000 in
theorem ivw_X4 : ∀ w ∈ wsX40, w ∈ vGW := fun w h => by
  have q := List.all_eq_true.mp (show (wsX40).all (fun w => decide (w ∈ tables_1) && goodWord w) = true from by decide +kernel) w h
  rw [Bool.and_eq_true, decide_eq_true_eq] at q
  exact List.mem_filter.mpr ⟨List.mem_append_right _ q.1, q.2⟩
set_option maxRecDepth 100000 in
theorem ivw_X5 : ∀ w ∈ wsX50, w ∈ vGW := fun w h => by
  have q := List.all_eq_true.mp (show (wsX50).all (fun w => decide (w ∈ tables_1) && goodWord w) = true from by decide +kernel) w h
  rw [Bool.and_eq_true, decide_eq_true_eq] at q
  exact List.mem_filter.mpr ⟨List.mem_append_right _ q.1, q.2⟩
set_option maxRecDepth 100000 in
theorem ivw_X6 : ∀ w ∈ wsX60, w ∈ vGW := fun w h => by
  have q := List.all_eq_true.mp (show (wsX60).all (fun w => decide (w ∈ tables_1) && goodWord w) = true from by decide +kernel) w h
  rw [Bool.and_eq_true, decide_eq_true_eq] at q
  exact List.mem_filter.mpr ⟨List.mem_append_right _ q.1, q.2⟩
set_option maxRecDepth 100000 in
theorem ivw_X7 : ∀ w ∈ wsX70, w ∈ vGW := fun w h => by
  have q := List.all_eq_true.mp (show (wsX70).all (fun w => decide (w ∈ tables_1) && goodWord w) = true from by decide +kernel) w h
  rw [Bool.and_eq_true, decide_eq_true_eq] at q
  exact List.mem_filter.mpr ⟨List.mem_append_right _ q.1, q.2⟩
set_option maxRecDepth 100000 in
theorem ivw_X9 : ∀ w ∈ wsX90, w ∈ vGW := fun w h => by
  have q := List.all_eq_true.mp (show (wsX90).all (fun w => decide (w ∈ tables_1) && goodWord w) = true from by decide +kernel) w h
  rw [Bool.and_eq_true, decide_eq_true_eq] at q
  exact List.mem_filter.mpr ⟨List.mem_append_right _ q.1, q.2⟩
set_option maxRecDepth 100000 in
theorem ivw_X10 : ∀ w ∈ wsX100, w ∈ vGW := fun w h => by
  have q := List.all_eq_true.mp (show (wsX100).all (fun w => decide (w ∈ tables_1) && goodWord w) = true from by decide +kernel) w h
  rw [Bool.and_eq_true, decide_eq_true_eq] at q
  exact List.mem_filter.mpr ⟨List.mem_append_right _ q.1, q.2⟩
set_option maxRecDepth 100000 in
theorem ivw_X11 : ∀ w ∈ wsX110, w ∈ vGW := fun w h => by
  have q := List.all_eq_true.mp (show (wsX110).all (fun w => decide (w ∈ tables_1) && goodWord w) = true from by decide +kernel) w h
  rw [Bool.and_eq_true, decide_eq_true_eq] at q
  exact List.mem_filter.mpr ⟨List.mem_append_right _ q.1, q.2⟩
set_option maxRecDepth 100000 in
theorem ivw_X12 : ∀ w ∈ wsX120, w ∈ vGW := fun w h => by
  have q := List.all_eq_true.mp (show (wsX120).all (fun w => decide (w ∈ tables_1) && goodWord w) = true from by decide +kernel) w h
  rw [Bool.and_eq_true, decide_eq_true_eq] at q
  exact List.mem_filter.mpr ⟨List.mem_append_right _ q.1, q.2⟩
theorem vw_60 : (Jvm.Cond.fieldLink "HashTreeSigner$Address" (7 : Nat) "HashTreeSigner$Address" "bytes" "[B") ∈ vGW := vGW_at 60 (by decide +kernel) (by decide +kernel)
theorem fX0_7_X0 : vFld RX0 7 0 0 := ⟨RX0, TX0, 5, "HashTreeSigner$Address", "", rfl, by decide, ivw_X0, Or.inl vw_60, Or.inl rfl⟩
theorem fX0_7_X0f : vFldF RX0 7 0 0 (.array .byte) := ⟨RX0, TX0, 5, "HashTreeSigner$Address", "", tyX0, rfl, by decide, ivw_X0, Or.inl vw_60, Or.inl rfl, tyX0_ok, nmX0, rfl, rfl, by decide +kernel⟩
theorem vw_61 : (Jvm.Cond.fieldLink "HashTreeSigner$ShakeFamily" (42 : Nat) "HashTreeSigner$Address" "bytes" "[B") ∈ vGW := vGW_at 61 (by decide +kernel) (by decide +kernel)
theorem fX7_42_X0 : vFld RX7 42 0 0 := ⟨RX0, TX0, 5, "HashTreeSigner$Address", "", rfl, by decide, ivw_X0, Or.inl vw_61, Or.inl rfl⟩
theorem vw_62 : (Jvm.Cond.fieldLink "HashTreeSigner$Sha2Family" (74 : Nat) "HashTreeSigner$Address" "bytes" "[B") ∈ vGW := vGW_at 62 (by decide +kernel) (by decide +kernel)
theorem fX5_74_X0 : vFld RX5 74 0 0 := ⟨RX0, TX0, 5, "HashTreeSigner$Address", "", rfl, by decide, ivw_X0, Or.inl vw_62, Or.inl rfl⟩
theorem vw_63 : (Jvm.Cond.fieldLink "HashTreeSigner$Address" (13 : Nat) "HashTreeSigner$Address" "layerAt" "I") ∈ vGW := vGW_at 63 (by decide +kernel) (by decide +kernel)
theorem fX0_13_X0 : vFld RX0 13 0 1 := ⟨RX0, TX0, 5, "HashTreeSigner$Address", "", rfl, by decide, ivw_X0, Or.inl vw_63, Or.inl rfl⟩
theorem fX0_13_X0f : vFldF RX0 13 0 1 .int := ⟨RX0, TX0, 5, "HashTreeSigner$Address", "", tyX0, rfl, by decide, ivw_X0, Or.inl vw_63, Or.inl rfl, tyX0_ok, nmX0, rfl, rfl, by decide +kernel⟩
theorem vw_64 : (Jvm.Cond.fieldLink "HashTreeSigner$Address" (17 : Nat) "HashTreeSigner$Address" "treeAt" "I") ∈ vGW := vGW_at 64 (by decide +kernel) (by decide +kernel)
theorem fX0_17_X0 : vFld RX0 17 0 2 := ⟨RX0, TX0, 5, "HashTreeSigner$Address", "", rfl, by decide, ivw_X0, Or.inl vw_64, Or.inl rfl⟩
theorem fX0_17_X0f : vFldF RX0 17 0 2 .int := ⟨RX0, TX0, 5, "HashTreeSigner$Address", "", tyX0, rfl, by decide, ivw_X0, Or.inl vw_64, Or.inl rfl, tyX0_ok, nmX0, rfl, rfl, by decide +kernel⟩
theorem vw_65 : (Jvm.Cond.fieldLink "HashTreeSigner$Address" (20 : Nat) "HashTreeSigner$Address" "typeAt" "I") ∈ vGW := vGW_at 65 (by decide +kernel) (by decide +kernel)
theorem fX0_20_X0 : vFld RX0 20 0 3 := ⟨RX0, TX0, 5, "HashTreeSigner$Address", "", rfl, by decide, ivw_X0, Or.inl vw_65, Or.inl rfl⟩
theorem fX0_20_X0f : vFldF RX0 20 0 3 .int := ⟨RX0, TX0, 5, "HashTreeSigner$Address", "", tyX0, rfl, by decide, ivw_X0, Or.inl vw_65, Or.inl rfl, tyX0_ok, nmX0, rfl, rfl, by decide +kernel⟩
theorem vw_66 : (Jvm.Cond.fieldLink "HashTreeSigner$Address" (23 : Nat) "HashTreeSigner$Address" "wordsAt" "I") ∈ vGW := vGW_at 66 (by decide +kernel) (by decide +kernel)
theorem fX0_23_X0 : vFld RX0 23 0 4 := ⟨RX0, TX0, 5, "HashTreeSigner$Address", "", rfl, by decide, ivw_X0, Or.inl vw_66, Or.inl rfl⟩
theorem fX0_23_X0f : vFldF RX0 23 0 4 .int := ⟨RX0, TX0, 5, "HashTreeSigner$Address", "", tyX0, rfl, by decide, ivw_X0, Or.inl vw_66, Or.inl rfl, tyX0_ok, nmX0, rfl, rfl, by decide +kernel⟩
theorem vw_90 : (Jvm.Cond.fieldLink "HashTreeSigner$Sponge" (7 : Nat) "HashTreeSigner$Sponge" "lanes" "[J") ∈ vGW := vGW_at 90 (by decide +kernel) (by decide +kernel)
theorem fX9_7_X9 : vFld RX9 7 6 0 := ⟨RX9, TX9, 3, "HashTreeSigner$Sponge", "", rfl, by decide, ivw_X9, Or.inl vw_90, Or.inl rfl⟩
theorem fX9_7_X9f : vFldF RX9 7 6 0 (.array .long) := ⟨RX9, TX9, 3, "HashTreeSigner$Sponge", "", tyX9, rfl, by decide, ivw_X9, Or.inl vw_90, Or.inl rfl, tyX9_ok, nmX9, rfl, rfl, by decide +kernel⟩
theorem vw_91 : (Jvm.Cond.fieldLink "HashTreeSigner$Sponge" (13 : Nat) "HashTreeSigner$Sponge" "mixed" "[J") ∈ vGW := vGW_at 91 (by decide +kernel) (by decide +kernel)
theorem fX9_13_X9 : vFld RX9 13 6 1 := ⟨RX9, TX9, 3, "HashTreeSigner$Sponge", "", rfl, by decide, ivw_X9, Or.inl vw_91, Or.inl rfl⟩
theorem fX9_13_X9f : vFldF RX9 13 6 1 (.array .long) := ⟨RX9, TX9, 3, "HashTreeSigner$Sponge", "", tyX9, rfl, by decide, ivw_X9, Or.inl vw_91, Or.inl rfl, tyX9_ok, nmX9, rfl, rfl, by decide +kernel⟩
theorem vw_92 : (Jvm.Cond.fieldLink "HashTreeSigner$Sponge" (16 : Nat) "HashTreeSigner$Sponge" "fill" "I") ∈ vGW := vGW_at 92 (by decide +kernel) (by decide +kernel)
theorem fX9_16_X9 : vFld RX9 16 6 2 := ⟨RX9, TX9, 3, "HashTreeSigner$Sponge", "", rfl, by decide, ivw_X9, Or.inl vw_92, Or.inl rfl⟩
theorem fX9_16_X9p : vFldP RX9 16 6 2 .int := ⟨RX9, TX9, 3, "HashTreeSigner$Sponge", "", tyX9, rfl, by decide, ivw_X9, Or.inl vw_92, Or.inl rfl, tyX9_ok, nmX9, rfl, by decide +kernel⟩
theorem vw_101 : (Jvm.Cond.fieldLink "HashTreeSigner$ShakeFamily" (17 : Nat) "HashTreeSigner$ShakeFamily" "sponge" "LHashTreeSigner$Sponge;") ∈ vGW := vGW_at 101 (by decide +kernel) (by decide +kernel)
theorem fX7_17_X7 : vFld RX7 17 5 3 := ⟨RX7, TX7, 4, "HashTreeSigner$ShakeFamily", "", rfl, by decide, ivw_X7, Or.inl vw_101, Or.inl rfl⟩
theorem fX7_17_X7f : vFldF RX7 17 5 3 (.object "HashTreeSigner$Sponge") := ⟨RX7, TX7, 4, "HashTreeSigner$ShakeFamily", "", tyX7, rfl, by decide, ivw_X7, Or.inl vw_101, Or.inl rfl, tyX7_ok, nmX7, rfl, rfl, by decide +kernel⟩
theorem vw_102 : (Jvm.Cond.fieldLink "HashTreeSigner$Family" (17 : Nat) "HashTreeSigner$Family" "address" "LHashTreeSigner$Address;") ∈ vGW := vGW_at 102 (by decide +kernel) (by decide +kernel)
theorem fX2_17_X5 : vFld RX2 17 3 0 := ⟨RX5, TX5, 8, "HashTreeSigner$Family", "", rfl, by decide, ivw_X5, Or.inl vw_102, Or.inl rfl⟩
theorem fX2_17_X5f : vFldF RX2 17 3 0 (.object "HashTreeSigner$Address") := ⟨RX5, TX5, 8, "HashTreeSigner$Family", "", tyX5, rfl, by decide, ivw_X5, Or.inl vw_102, Or.inl rfl, tyX5_ok, nmX5, rfl, rfl, by decide +kernel⟩
theorem fX2_17_X7 : vFld RX2 17 5 0 := ⟨RX7, TX7, 4, "HashTreeSigner$Family", "", rfl, by decide, ivw_X7, Or.inl vw_102, Or.inl rfl⟩
theorem fX2_17_X7f : vFldF RX2 17 5 0 (.object "HashTreeSigner$Address") := ⟨RX7, TX7, 4, "HashTreeSigner$Family", "", tyX7, rfl, by decide, ivw_X7, Or.inl vw_102, Or.inl rfl, tyX7_ok, nmX7, rfl, rfl, by decide +kernel⟩
theorem vw_104 : (Jvm.Cond.sameField "HashTreeSigner$ShakeFamily" "HashTreeSigner$Family" "address" "LHashTreeSigner$Address;") ∈ vGW := vGW_at 104 (by decide +kernel) (by decide +kernel)
theorem vw_103 : (Jvm.Cond.fieldLink "HashTreeSigner$ShakeFamily" (38 : Nat) "HashTreeSigner$ShakeFamily" "address" "LHashTreeSigner$Address;") ∈ vGW := vGW_at 103 (by decide +kernel) (by decide +kernel)
theorem fX7_38_X5 : vFld RX7 38 3 0 := ⟨RX5, TX5, 8, "HashTreeSigner$ShakeFamily", "", rfl, by decide, ivw_X5, Or.inl vw_103, Or.inr vw_104⟩
theorem fX7_38_X7 : vFld RX7 38 5 0 := ⟨RX7, TX7, 4, "HashTreeSigner$ShakeFamily", "", rfl, by decide, ivw_X7, Or.inl vw_103, Or.inr vw_104⟩
theorem vw_106 : (Jvm.Cond.sameField "HashTreeSigner$Sha2Family" "HashTreeSigner$Family" "address" "LHashTreeSigner$Address;") ∈ vGW := vGW_at 106 (by decide +kernel) (by decide +kernel)
theorem vw_105 : (Jvm.Cond.fieldLink "HashTreeSigner$Sha2Family" (70 : Nat) "HashTreeSigner$Sha2Family" "address" "LHashTreeSigner$Address;") ∈ vGW := vGW_at 105 (by decide +kernel) (by decide +kernel)
theorem fX5_70_X5 : vFld RX5 70 3 0 := ⟨RX5, TX5, 8, "HashTreeSigner$Sha2Family", "", rfl, by decide, ivw_X5, Or.inl vw_105, Or.inr vw_106⟩
theorem fX5_70_X7 : vFld RX5 70 5 0 := ⟨RX7, TX7, 4, "HashTreeSigner$Sha2Family", "", rfl, by decide, ivw_X7, Or.inl vw_105, Or.inr vw_106⟩
theorem vw_107 : (Jvm.Cond.fieldLink "HashTreeSigner$Chains" (46 : Nat) "HashTreeSigner$Family" "address" "LHashTreeSigner$Address;") ∈ vGW := vGW_at 107 (by decide +kernel) (by decide +kernel)
theorem fX1_46_X5 : vFld RX1 46 3 0 := ⟨RX5, TX5, 8, "HashTreeSigner$Family", "", rfl, by decide, ivw_X5, Or.inl vw_107, Or.inl rfl⟩
theorem fX1_46_X7 : vFld RX1 46 5 0 := ⟨RX7, TX7, 4, "HashTreeSigner$Family", "", rfl, by decide, ivw_X7, Or.inl vw_107, Or.inl rfl⟩
theorem vw_108 : (Jvm.Cond.fieldLink "HashTreeSigner$Trees" (101 : Nat) "HashTreeSigner$Family" "address" "LHashTreeSigner$Address;") ∈ vGW := vGW_at 108 (by decide +kernel) (by decide +kernel)
theorem fX10_101_X5 : vFld RX10 101 3 0 := ⟨RX5, TX5, 8, "HashTreeSigner$Family", "", rfl, by decide, ivw_X5, Or.inl vw_108, Or.inl rfl⟩
theorem fX10_101_X7 : vFld RX10 101 5 0 := ⟨RX7, TX7, 4, "HashTreeSigner$Family", "", rfl, by decide, ivw_X7, Or.inl vw_108, Or.inl rfl⟩
theorem vw_109 : (Jvm.Cond.fieldLink "HashTreeSigner$Family" (7 : Nat) "HashTreeSigner$Family" "key" "[B") ∈ vGW := vGW_at 109 (by decide +kernel) (by decide +kernel)
theorem fX2_7_X5 : vFld RX2 7 3 1 := ⟨RX5, TX5, 8, "HashTreeSigner$Family", "", rfl, by decide, ivw_X5, Or.inl vw_109, Or.inl rfl⟩
theorem fX2_7_X5f : vFldF RX2 7 3 1 (.array .byte) := ⟨RX5, TX5, 8, "HashTreeSigner$Family", "", tyX5, rfl, by decide, ivw_X5, Or.inl vw_109, Or.inl rfl, tyX5_ok, nmX5, rfl, rfl, by decide +kernel⟩
theorem fX2_7_X7 : vFld RX2 7 5 1 := ⟨RX7, TX7, 4, "HashTreeSigner$Family", "", rfl, by decide, ivw_X7, Or.inl vw_109, Or.inl rfl⟩
theorem fX2_7_X7f : vFldF RX2 7 5 1 (.array .byte) := ⟨RX7, TX7, 4, "HashTreeSigner$Family", "", tyX7, rfl, by decide, ivw_X7, Or.inl vw_109, Or.inl rfl, tyX7_ok, nmX7, rfl, rfl, by decide +kernel⟩
theorem vw_111 : (Jvm.Cond.sameField "HashTreeSigner$Sha2Family" "HashTreeSigner$Family" "key" "[B") ∈ vGW := vGW_at 111 (by decide +kernel) (by decide +kernel)
theorem vw_110 : (Jvm.Cond.fieldLink "HashTreeSigner$Sha2Family" (50 : Nat) "HashTreeSigner$Sha2Family" "key" "[B") ∈ vGW := vGW_at 110 (by decide +kernel) (by decide +kernel)
theorem fX5_50_X5 : vFld RX5 50 3 1 := ⟨RX5, TX5, 8, "HashTreeSigner$Sha2Family", "", rfl, by decide, ivw_X5, Or.inl vw_110, Or.inr vw_111⟩
theorem fX5_50_X7 : vFld RX5 50 5 1 := ⟨RX7, TX7, 4, "HashTreeSigner$Sha2Family", "", rfl, by decide, ivw_X7, Or.inl vw_110, Or.inr vw_111⟩
theorem vw_113 : (Jvm.Cond.sameField "HashTreeSigner$ShakeFamily" "HashTreeSigner$Family" "key" "[B") ∈ vGW := vGW_at 113 (by decide +kernel) (by decide +kernel)
theorem vw_112 : (Jvm.Cond.fieldLink "HashTreeSigner$ShakeFamily" (26 : Nat) "HashTreeSigner$ShakeFamily" "key" "[B") ∈ vGW := vGW_at 112 (by decide +kernel) (by decide +kernel)
theorem fX7_26_X5 : vFld RX7 26 3 1 := ⟨RX5, TX5, 8, "HashTreeSigner$ShakeFamily", "", rfl, by decide, ivw_X5, Or.inl vw_112, Or.inr vw_113⟩
theorem fX7_26_X7 : vFld RX7 26 5 1 := ⟨RX7, TX7, 4, "HashTreeSigner$ShakeFamily", "", rfl, by decide, ivw_X7, Or.inl vw_112, Or.inr vw_113⟩
theorem vw_114 : (Jvm.Cond.fieldLink "HashTreeSigner$Chains" (58 : Nat) "HashTreeSigner$Family" "key" "[B") ∈ vGW := vGW_at 114 (by decide +kernel) (by decide +kernel)
theorem fX1_58_X5 : vFld RX1 58 3 1 := ⟨RX5, TX5, 8, "HashTreeSigner$Family", "", rfl, by decide, ivw_X5, Or.inl vw_114, Or.inl rfl⟩
theorem fX1_58_X7 : vFld RX1 58 5 1 := ⟨RX7, TX7, 4, "HashTreeSigner$Family", "", rfl, by decide, ivw_X7, Or.inl vw_114, Or.inl rfl⟩
theorem vw_115 : (Jvm.Cond.fieldLink "HashTreeSigner$Trees" (123 : Nat) "HashTreeSigner$Family" "key" "[B") ∈ vGW := vGW_at 115 (by decide +kernel) (by decide +kernel)
theorem fX10_123_X5 : vFld RX10 123 3 1 := ⟨RX5, TX5, 8, "HashTreeSigner$Family", "", rfl, by decide, ivw_X5, Or.inl vw_115, Or.inl rfl⟩
theorem fX10_123_X7 : vFld RX10 123 5 1 := ⟨RX7, TX7, 4, "HashTreeSigner$Family", "", rfl, by decide, ivw_X7, Or.inl vw_115, Or.inl rfl⟩
theorem vw_116 : (Jvm.Cond.fieldLink "HashTreeSigner$Family" (13 : Nat) "HashTreeSigner$Family" "n" "I") ∈ vGW := vGW_at 116 (by decide +kernel) (by decide +kernel)
theorem fX2_13_X5 : vFld RX2 13 3 2 := ⟨RX5, TX5, 8, "HashTreeSigner$Family", "", rfl, by decide, ivw_X5, Or.inl vw_116, Or.inl rfl⟩
theorem fX2_13_X5p : vFldP RX2 13 3 2 .int := ⟨RX5, TX5, 8, "HashTreeSigner$Family", "", tyX5, rfl, by decide, ivw_X5, Or.inl vw_116, Or.inl rfl, tyX5_ok, nmX5, rfl, by decide +kernel⟩
theorem fX2_13_X7 : vFld RX2 13 5 2 := ⟨RX7, TX7, 4, "HashTreeSigner$Family", "", rfl, by decide, ivw_X7, Or.inl vw_116, Or.inl rfl⟩
theorem fX2_13_X7p : vFldP RX2 13 5 2 .int := ⟨RX7, TX7, 4, "HashTreeSigner$Family", "", tyX7, rfl, by decide, ivw_X7, Or.inl vw_116, Or.inl rfl, tyX7_ok, nmX7, rfl, by decide +kernel⟩
theorem vw_118 : (Jvm.Cond.sameField "HashTreeSigner$Sha2Family" "HashTreeSigner$Family" "n" "I") ∈ vGW := vGW_at 118 (by decide +kernel) (by decide +kernel)
theorem vw_117 : (Jvm.Cond.fieldLink "HashTreeSigner$Sha2Family" (53 : Nat) "HashTreeSigner$Sha2Family" "n" "I") ∈ vGW := vGW_at 117 (by decide +kernel) (by decide +kernel)
theorem fX5_53_X5 : vFld RX5 53 3 2 := ⟨RX5, TX5, 8, "HashTreeSigner$Sha2Family", "", rfl, by decide, ivw_X5, Or.inl vw_117, Or.inr vw_118⟩
theorem fX5_53_X5p : vFldP RX5 53 3 2 .int := ⟨RX5, TX5, 8, "HashTreeSigner$Sha2Family", "", tyX5, rfl, by decide, ivw_X5, Or.inl vw_117, Or.inr vw_118, tyX5_ok, nmX5, rfl, by decide +kernel⟩
theorem fX5_53_X7 : vFld RX5 53 5 2 := ⟨RX7, TX7, 4, "HashTreeSigner$Sha2Family", "", rfl, by decide, ivw_X7, Or.inl vw_117, Or.inr vw_118⟩
theorem fX5_53_X7p : vFldP RX5 53 5 2 .int := ⟨RX7, TX7, 4, "HashTreeSigner$Sha2Family", "", tyX7, rfl, by decide, ivw_X7, Or.inl vw_117, Or.inr vw_118, tyX7_ok, nmX7, rfl, by decide +kernel⟩
theorem vw_120 : (Jvm.Cond.sameField "HashTreeSigner$ShakeFamily" "HashTreeSigner$Family" "n" "I") ∈ vGW := vGW_at 120 (by decide +kernel) (by decide +kernel)
theorem vw_119 : (Jvm.Cond.fieldLink "HashTreeSigner$ShakeFamily" (30 : Nat) "HashTreeSigner$ShakeFamily" "n" "I") ∈ vGW := vGW_at 119 (by decide +kernel) (by decide +kernel)
theorem fX7_30_X5 : vFld RX7 30 3 2 := ⟨RX5, TX5, 8, "HashTreeSigner$ShakeFamily", "", rfl, by decide, ivw_X5, Or.inl vw_119, Or.inr vw_120⟩
theorem fX7_30_X5p : vFldP RX7 30 3 2 .int := ⟨RX5, TX5, 8, "HashTreeSigner$ShakeFamily", "", tyX5, rfl, by decide, ivw_X5, Or.inl vw_119, Or.inr vw_120, tyX5_ok, nmX5, rfl, by decide +kernel⟩
theorem fX7_30_X7 : vFld RX7 30 5 2 := ⟨RX7, TX7, 4, "HashTreeSigner$ShakeFamily", "", rfl, by decide, ivw_X7, Or.inl vw_119, Or.inr vw_120⟩
theorem fX7_30_X7p : vFldP RX7 30 5 2 .int := ⟨RX7, TX7, 4, "HashTreeSigner$ShakeFamily", "", tyX7, rfl, by decide, ivw_X7, Or.inl vw_119, Or.inr vw_120, tyX7_ok, nmX7, rfl, by decide +kernel⟩
theorem vw_145 : (Jvm.Cond.fieldLink "HashTreeSigner$Chains" (9 : Nat) "HashTreeSigner$Chains" "ends" "[B") ∈ vGW := vGW_at 145 (by decide +kernel) (by decide +kernel)
theorem fX1_9_X1 : vFld RX1 9 1 0 := ⟨RX1, TX1, 7, "HashTreeSigner$Chains", "", rfl, by decide, ivw_X1, Or.inl vw_145, Or.inl rfl⟩
theorem fX1_9_X1f : vFldF RX1 9 1 0 (.array .byte) := ⟨RX1, TX1, 7, "HashTreeSigner$Chains", "", tyX1, rfl, by decide, ivw_X1, Or.inl vw_145, Or.inl rfl, tyX1_ok, nmX1, rfl, rfl, by decide +kernel⟩
theorem vw_146 : (Jvm.Cond.fieldLink "HashTreeSigner$Trees" (173 : Nat) "HashTreeSigner$Chains" "ends" "[B") ∈ vGW := vGW_at 146 (by decide +kernel) (by decide +kernel)
theorem fX10_173_X1 : vFld RX10 173 1 0 := ⟨RX1, TX1, 7, "HashTreeSigner$Chains", "", rfl, by decide, ivw_X1, Or.inl vw_146, Or.inl rfl⟩
theorem vw_147 : (Jvm.Cond.fieldLink "HashTreeSigner$Chains" (13 : Nat) "HashTreeSigner$Chains" "first" "[I") ∈ vGW := vGW_at 147 (by decide +kernel) (by decide +kernel)
theorem fX1_13_X1 : vFld RX1 13 1 1 := ⟨RX1, TX1, 7, "HashTreeSigner$Chains", "", rfl, by decide, ivw_X1, Or.inl vw_147, Or.inl rfl⟩
theorem fX1_13_X1f : vFldF RX1 13 1 1 (.array .int) := ⟨RX1, TX1, 7, "HashTreeSigner$Chains", "", tyX1, rfl, by decide, ivw_X1, Or.inl vw_147, Or.inl rfl, tyX1_ok, nmX1, rfl, rfl, by decide +kernel⟩
theorem vw_148 : (Jvm.Cond.fieldLink "HashTreeSigner$Trees" (156 : Nat) "HashTreeSigner$Chains" "first" "[I") ∈ vGW := vGW_at 148 (by decide +kernel) (by decide +kernel)
theorem fX10_156_X1 : vFld RX10 156 1 1 := ⟨RX1, TX1, 7, "HashTreeSigner$Chains", "", rfl, by decide, ivw_X1, Or.inl vw_148, Or.inl rfl⟩
theorem vw_149 : (Jvm.Cond.fieldLink "HashTreeSigner$Chains" (17 : Nat) "HashTreeSigner$Chains" "digits" "[I") ∈ vGW := vGW_at 149 (by decide +kernel) (by decide +kernel)
theorem fX1_17_X1 : vFld RX1 17 1 2 := ⟨RX1, TX1, 7, "HashTreeSigner$Chains", "", rfl, by decide, ivw_X1, Or.inl vw_149, Or.inl rfl⟩
theorem fX1_17_X1f : vFldF RX1 17 1 2 (.array .int) := ⟨RX1, TX1, 7, "HashTreeSigner$Chains", "", tyX1, rfl, by decide, ivw_X1, Or.inl vw_149, Or.inl rfl, tyX1_ok, nmX1, rfl, rfl, by decide +kernel⟩
theorem vw_150 : (Jvm.Cond.fieldLink "HashTreeSigner$Trees" (160 : Nat) "HashTreeSigner$Chains" "digits" "[I") ∈ vGW := vGW_at 150 (by decide +kernel) (by decide +kernel)
theorem fX10_160_X1 : vFld RX10 160 1 2 := ⟨RX1, TX1, 7, "HashTreeSigner$Chains", "", rfl, by decide, ivw_X1, Or.inl vw_150, Or.inl rfl⟩
theorem vw_151 : (Jvm.Cond.fieldLink "HashTreeSigner$Chains" (20 : Nat) "HashTreeSigner$Chains" "last" "[I") ∈ vGW := vGW_at 151 (by decide +kernel) (by decide +kernel)
theorem fX1_20_X1 : vFld RX1 20 1 3 := ⟨RX1, TX1, 7, "HashTreeSigner$Chains", "", rfl, by decide, ivw_X1, Or.inl vw_151, Or.inl rfl⟩
theorem fX1_20_X1f : vFldF RX1 20 1 3 (.array .int) := ⟨RX1, TX1, 7, "HashTreeSigner$Chains", "", tyX1, rfl, by decide, ivw_X1, Or.inl vw_151, Or.inl rfl, tyX1_ok, nmX1, rfl, rfl, by decide +kernel⟩
theorem vw_152 : (Jvm.Cond.fieldLink "HashTreeSigner$Trees" (182 : Nat) "HashTreeSigner$Chains" "last" "[I") ∈ vGW := vGW_at 152 (by decide +kernel) (by decide +kernel)
theorem fX10_182_X1 : vFld RX10 182 1 3 := ⟨RX1, TX1, 7, "HashTreeSigner$Chains", "", rfl, by decide, ivw_X1, Or.inl vw_152, Or.inl rfl⟩
theorem vw_153 : (Jvm.Cond.fieldLink "HashTreeSigner$Chains" (30 : Nat) "HashTreeSigner$Chains" "family" "LHashTreeSigner$Family;") ∈ vGW := vGW_at 153 (by decide +kernel) (by decide +kernel)
theorem fX1_30_X1 : vFld RX1 30 1 4 := ⟨RX1, TX1, 7, "HashTreeSigner$Chains", "", rfl, by decide, ivw_X1, Or.inl vw_153, Or.inl rfl⟩
theorem fX1_30_X1f : vFldF RX1 30 1 4 (.object "HashTreeSigner$Family") := ⟨RX1, TX1, 7, "HashTreeSigner$Chains", "", tyX1, rfl, by decide, ivw_X1, Or.inl vw_153, Or.inl rfl, tyX1_ok, nmX1, rfl, rfl, by decide +kernel⟩
theorem vw_154 : (Jvm.Cond.fieldLink "HashTreeSigner$Chains" (23 : Nat) "HashTreeSigner$Chains" "n" "I") ∈ vGW := vGW_at 154 (by decide +kernel) (by decide +kernel)
theorem fX1_23_X1 : vFld RX1 23 1 5 := ⟨RX1, TX1, 7, "HashTreeSigner$Chains", "", rfl, by decide, ivw_X1, Or.inl vw_154, Or.inl rfl⟩
theorem fX1_23_X1p : vFldP RX1 23 1 5 .int := ⟨RX1, TX1, 7, "HashTreeSigner$Chains", "", tyX1, rfl, by decide, ivw_X1, Or.inl vw_154, Or.inl rfl, tyX1_ok, nmX1, rfl, by decide +kernel⟩
theorem vw_155 : (Jvm.Cond.fieldLink "HashTreeSigner$Chains" (27 : Nat) "HashTreeSigner$Chains" "count" "I") ∈ vGW := vGW_at 155 (by decide +kernel) (by decide +kernel)
theorem fX1_27_X1 : vFld RX1 27 1 6 := ⟨RX1, TX1, 7, "HashTreeSigner$Chains", "", rfl, by decide, ivw_X1, Or.inl vw_155, Or.inl rfl⟩
theorem fX1_27_X1p : vFldP RX1 27 1 6 .int := ⟨RX1, TX1, 7, "HashTreeSigner$Chains", "", tyX1, rfl, by decide, ivw_X1, Or.inl vw_155, Or.inl rfl, tyX1_ok, nmX1, rfl, by decide +kernel⟩
theorem vw_171 : (Jvm.Cond.fieldLink "HashTreeSigner$Trees" (7 : Nat) "HashTreeSigner$Trees" "x" "[B") ∈ vGW := vGW_at 171 (by decide +kernel) (by decide +kernel)
theorem fX10_7_X10 : vFld RX10 7 7 0 := ⟨RX10, TX10, 12, "HashTreeSigner$Trees", "", rfl, by decide, ivw_X10, Or.inl vw_171, Or.inl rfl⟩
theorem fX10_7_X10f : vFldF RX10 7 7 0 (.array .byte) := ⟨RX10, TX10, 12, "HashTreeSigner$Trees", "", tyX10, rfl, by decide, ivw_X10, Or.inl vw_171, Or.inl rfl, tyX10_ok, nmX10, rfl, rfl, by decide +kernel⟩
theorem vw_172 : (Jvm.Cond.fieldLink "HashTreeSigner" (185 : Nat) "HashTreeSigner$Trees" "x" "[B") ∈ vGW := vGW_at 172 (by decide +kernel) (by decide +kernel)
theorem fX11_185_X10 : vFld RX11 185 7 0 := ⟨RX10, TX10, 12, "HashTreeSigner$Trees", "", rfl, by decide, ivw_X10, Or.inl vw_172, Or.inl rfl⟩
theorem vw_173 : (Jvm.Cond.fieldLink "HashTreeSigner$Trees" (50 : Nat) "HashTreeSigner$Trees" "family" "LHashTreeSigner$Family;") ∈ vGW := vGW_at 173 (by decide +kernel) (by decide +kernel)
theorem fX10_50_X10 : vFld RX10 50 7 1 := ⟨RX10, TX10, 12, "HashTreeSigner$Trees", "", rfl, by decide, ivw_X10, Or.inl vw_173, Or.inl rfl⟩
theorem fX10_50_X10f : vFldF RX10 50 7 1 (.object "HashTreeSigner$Family") := ⟨RX10, TX10, 12, "HashTreeSigner$Trees", "", tyX10, rfl, by decide, ivw_X10, Or.inl vw_173, Or.inl rfl, tyX10_ok, nmX10, rfl, rfl, by decide +kernel⟩
theorem vw_174 : (Jvm.Cond.fieldLink "HashTreeSigner$Trees" (59 : Nat) "HashTreeSigner$Trees" "chains" "LHashTreeSigner$Chains;") ∈ vGW := vGW_at 174 (by decide +kernel) (by decide +kernel)
theorem fX10_59_X10 : vFld RX10 59 7 2 := ⟨RX10, TX10, 12, "HashTreeSigner$Trees", "", rfl, by decide, ivw_X10, Or.inl vw_174, Or.inl rfl⟩
theorem fX10_59_X10f : vFldF RX10 59 7 2 (.object "HashTreeSigner$Chains") := ⟨RX10, TX10, 12, "HashTreeSigner$Trees", "", tyX10, rfl, by decide, ivw_X10, Or.inl vw_174, Or.inl rfl, tyX10_ok, nmX10, rfl, rfl, by decide +kernel⟩
theorem vw_175 : (Jvm.Cond.fieldLink "HashTreeSigner$Trees" (13 : Nat) "HashTreeSigner$Trees" "digest" "[B") ∈ vGW := vGW_at 175 (by decide +kernel) (by decide +kernel)
theorem fX10_13_X10 : vFld RX10 13 7 3 := ⟨RX10, TX10, 12, "HashTreeSigner$Trees", "", rfl, by decide, ivw_X10, Or.inl vw_175, Or.inl rfl⟩
theorem fX10_13_X10f : vFldF RX10 13 7 3 (.array .byte) := ⟨RX10, TX10, 12, "HashTreeSigner$Trees", "", tyX10, rfl, by decide, ivw_X10, Or.inl vw_175, Or.inl rfl, tyX10_ok, nmX10, rfl, rfl, by decide +kernel⟩
theorem vw_176 : (Jvm.Cond.fieldLink "HashTreeSigner$Trees" (16 : Nat) "HashTreeSigner$Trees" "roots" "[B") ∈ vGW := vGW_at 176 (by decide +kernel) (by decide +kernel)
theorem fX10_16_X10 : vFld RX10 16 7 4 := ⟨RX10, TX10, 12, "HashTreeSigner$Trees", "", rfl, by decide, ivw_X10, Or.inl vw_176, Or.inl rfl⟩
theorem fX10_16_X10f : vFldF RX10 16 7 4 (.array .byte) := ⟨RX10, TX10, 12, "HashTreeSigner$Trees", "", tyX10, rfl, by decide, ivw_X10, Or.inl vw_176, Or.inl rfl, tyX10_ok, nmX10, rfl, rfl, by decide +kernel⟩
theorem vw_177 : (Jvm.Cond.fieldLink "HashTreeSigner$Trees" (19 : Nat) "HashTreeSigner$Trees" "pairs" "[B") ∈ vGW := vGW_at 177 (by decide +kernel) (by decide +kernel)
theorem fX10_19_X10 : vFld RX10 19 7 5 := ⟨RX10, TX10, 12, "HashTreeSigner$Trees", "", rfl, by decide, ivw_X10, Or.inl vw_177, Or.inl rfl⟩
theorem fX10_19_X10f : vFldF RX10 19 7 5 (.array .byte) := ⟨RX10, TX10, 12, "HashTreeSigner$Trees", "", tyX10, rfl, by decide, ivw_X10, Or.inl vw_177, Or.inl rfl, tyX10_ok, nmX10, rfl, rfl, by decide +kernel⟩
theorem vw_178 : (Jvm.Cond.fieldLink "HashTreeSigner$Trees" (28 : Nat) "HashTreeSigner$Trees" "sizes" "LHashTreeSigner$Sizes;") ∈ vGW := vGW_at 178 (by decide +kernel) (by decide +kernel)
theorem fX10_28_X10 : vFld RX10 28 7 6 := ⟨RX10, TX10, 12, "HashTreeSigner$Trees", "", rfl, by decide, ivw_X10, Or.inl vw_178, Or.inl rfl⟩
theorem fX10_28_X10p : vFldP RX10 28 7 6 (.object "HashTreeSigner$Sizes") := ⟨RX10, TX10, 12, "HashTreeSigner$Trees", "", tyX10, rfl, by decide, ivw_X10, Or.inl vw_178, Or.inl rfl, tyX10_ok, nmX10, rfl, by decide +kernel⟩
theorem vw_179 : (Jvm.Cond.fieldLink "HashTreeSigner$Trees" (31 : Nat) "HashTreeSigner$Trees" "n" "I") ∈ vGW := vGW_at 179 (by decide +kernel) (by decide +kernel)
theorem fX10_31_X10 : vFld RX10 31 7 7 := ⟨RX10, TX10, 12, "HashTreeSigner$Trees", "", rfl, by decide, ivw_X10, Or.inl vw_179, Or.inl rfl⟩
theorem fX10_31_X10p : vFldP RX10 31 7 7 .int := ⟨RX10, TX10, 12, "HashTreeSigner$Trees", "", tyX10, rfl, by decide, ivw_X10, Or.inl vw_179, Or.inl rfl, tyX10_ok, nmX10, rfl, by decide +kernel⟩
theorem vw_180 : (Jvm.Cond.fieldLink "HashTreeSigner$Trees" (35 : Nat) "HashTreeSigner$Trees" "tree" "J") ∈ vGW := vGW_at 180 (by decide +kernel) (by decide +kernel)
theorem fX10_35_X10 : vFld RX10 35 7 8 := ⟨RX10, TX10, 12, "HashTreeSigner$Trees", "", rfl, by decide, ivw_X10, Or.inl vw_180, Or.inl rfl⟩
theorem fX10_35_X10p : vFldP RX10 35 7 8 .long := ⟨RX10, TX10, 12, "HashTreeSigner$Trees", "", tyX10, rfl, by decide, ivw_X10, Or.inl vw_180, Or.inl rfl, tyX10_ok, nmX10, rfl, by decide +kernel⟩
theorem vw_181 : (Jvm.Cond.fieldLink "HashTreeSigner$Trees" (39 : Nat) "HashTreeSigner$Trees" "leaf" "I") ∈ vGW := vGW_at 181 (by decide +kernel) (by decide +kernel)
theorem fX10_39_X10 : vFld RX10 39 7 9 := ⟨RX10, TX10, 12, "HashTreeSigner$Trees", "", rfl, by decide, ivw_X10, Or.inl vw_181, Or.inl rfl⟩
theorem fX10_39_X10p : vFldP RX10 39 7 9 .int := ⟨RX10, TX10, 12, "HashTreeSigner$Trees", "", tyX10, rfl, by decide, ivw_X10, Or.inl vw_181, Or.inl rfl, tyX10_ok, nmX10, rfl, by decide +kernel⟩
theorem vw_182 : (Jvm.Cond.fieldLink "HashTreeSigner$Trees" (44 : Nat) "HashTreeSigner$Trees" "type" "I") ∈ vGW := vGW_at 182 (by decide +kernel) (by decide +kernel)
theorem fX10_44_X10 : vFld RX10 44 7 10 := ⟨RX10, TX10, 12, "HashTreeSigner$Trees", "", rfl, by decide, ivw_X10, Or.inl vw_182, Or.inl rfl⟩
theorem fX10_44_X10p : vFldP RX10 44 7 10 .int := ⟨RX10, TX10, 12, "HashTreeSigner$Trees", "", tyX10, rfl, by decide, ivw_X10, Or.inl vw_182, Or.inl rfl, tyX10_ok, nmX10, rfl, by decide +kernel⟩
theorem vw_183 : (Jvm.Cond.fieldLink "HashTreeSigner$Trees" (47 : Nat) "HashTreeSigner$Trees" "pair" "I") ∈ vGW := vGW_at 183 (by decide +kernel) (by decide +kernel)
theorem fX10_47_X10 : vFld RX10 47 7 11 := ⟨RX10, TX10, 12, "HashTreeSigner$Trees", "", rfl, by decide, ivw_X10, Or.inl vw_183, Or.inl rfl⟩
theorem fX10_47_X10p : vFldP RX10 47 7 11 .int := ⟨RX10, TX10, 12, "HashTreeSigner$Trees", "", tyX10, rfl, by decide, ivw_X10, Or.inl vw_183, Or.inl rfl, tyX10_ok, nmX10, rfl, by decide +kernel⟩
theorem vw_226 : (Jvm.Cond.fieldLink "HashTreeSigner$Sha256" (7 : Nat) "HashTreeSigner$Sha256" "w" "[I") ∈ vGW := vGW_at 226 (by decide +kernel) (by decide +kernel)
theorem fX4_7_X4 : vFld RX4 7 2 7 := ⟨RX4, TX4, 8, "HashTreeSigner$Sha256", "", rfl, by decide, ivw_X4, Or.inl vw_226, Or.inl rfl⟩
theorem fX4_7_X4f : vFldF RX4 7 2 7 (.array .int) := ⟨RX4, TX4, 8, "HashTreeSigner$Sha256", "", tyX4, rfl, by decide, ivw_X4, Or.inl vw_226, Or.inl rfl, tyX4_ok, nmX4, rfl, rfl, by decide +kernel⟩
theorem vw_227 : (Jvm.Cond.fieldLink "HashTreeSigner$Sha2" (27 : Nat) "HashTreeSigner$Sha2" "blockBytes" "I") ∈ vGW := vGW_at 227 (by decide +kernel) (by decide +kernel)
theorem fX3_27_X4 : vFld RX3 27 2 0 := ⟨RX4, TX4, 8, "HashTreeSigner$Sha2", "", rfl, by decide, ivw_X4, Or.inl vw_227, Or.inl rfl⟩
theorem fX3_27_X4f : vFldF RX3 27 2 0 .int := ⟨RX4, TX4, 8, "HashTreeSigner$Sha2", "", tyX4, rfl, by decide, ivw_X4, Or.inl vw_227, Or.inl rfl, tyX4_ok, nmX4, rfl, rfl, by decide +kernel⟩
theorem fX3_27_X6 : vFld RX3 27 4 0 := ⟨RX6, TX6, 8, "HashTreeSigner$Sha2", "", rfl, by decide, ivw_X6, Or.inl vw_227, Or.inl rfl⟩
theorem fX3_27_X6f : vFldF RX3 27 4 0 .int := ⟨RX6, TX6, 8, "HashTreeSigner$Sha2", "", tyX6, rfl, by decide, ivw_X6, Or.inl vw_227, Or.inl rfl, tyX6_ok, nmX6, rfl, rfl, by decide +kernel⟩
theorem vw_228 : (Jvm.Cond.fieldLink "HashTreeSigner$Sha2Family" (61 : Nat) "HashTreeSigner$Sha2" "blockBytes" "I") ∈ vGW := vGW_at 228 (by decide +kernel) (by decide +kernel)
theorem fX5_61_X4 : vFld RX5 61 2 0 := ⟨RX4, TX4, 8, "HashTreeSigner$Sha2", "", rfl, by decide, ivw_X4, Or.inl vw_228, Or.inl rfl⟩
theorem fX5_61_X6 : vFld RX5 61 4 0 := ⟨RX6, TX6, 8, "HashTreeSigner$Sha2", "", rfl, by decide, ivw_X6, Or.inl vw_228, Or.inl rfl⟩
theorem vw_229 : (Jvm.Cond.fieldLink "HashTreeSigner$Sha2" (30 : Nat) "HashTreeSigner$Sha2" "block" "[B") ∈ vGW := vGW_at 229 (by decide +kernel) (by decide +kernel)
theorem fX3_30_X4 : vFld RX3 30 2 1 := ⟨RX4, TX4, 8, "HashTreeSigner$Sha2", "", rfl, by decide, ivw_X4, Or.inl vw_229, Or.inl rfl⟩
theorem fX3_30_X4f : vFldF RX3 30 2 1 (.array .byte) := ⟨RX4, TX4, 8, "HashTreeSigner$Sha2", "", tyX4, rfl, by decide, ivw_X4, Or.inl vw_229, Or.inl rfl, tyX4_ok, nmX4, rfl, rfl, by decide +kernel⟩
theorem fX3_30_X6 : vFld RX3 30 4 1 := ⟨RX6, TX6, 8, "HashTreeSigner$Sha2", "", rfl, by decide, ivw_X6, Or.inl vw_229, Or.inl rfl⟩
theorem fX3_30_X6f : vFldF RX3 30 4 1 (.array .byte) := ⟨RX6, TX6, 8, "HashTreeSigner$Sha2", "", tyX6, rfl, by decide, ivw_X6, Or.inl vw_229, Or.inl rfl, tyX6_ok, nmX6, rfl, rfl, by decide +kernel⟩
theorem vw_231 : (Jvm.Cond.sameField "HashTreeSigner$Sha256" "HashTreeSigner$Sha2" "block" "[B") ∈ vGW := vGW_at 231 (by decide +kernel) (by decide +kernel)
theorem vw_230 : (Jvm.Cond.fieldLink "HashTreeSigner$Sha256" (13 : Nat) "HashTreeSigner$Sha256" "block" "[B") ∈ vGW := vGW_at 230 (by decide +kernel) (by decide +kernel)
theorem fX4_13_X4 : vFld RX4 13 2 1 := ⟨RX4, TX4, 8, "HashTreeSigner$Sha256", "", rfl, by decide, ivw_X4, Or.inl vw_230, Or.inr vw_231⟩
theorem fX4_13_X6 : vFld RX4 13 4 1 := ⟨RX6, TX6, 8, "HashTreeSigner$Sha256", "", rfl, by decide, ivw_X6, Or.inl vw_230, Or.inr vw_231⟩
theorem vw_233 : (Jvm.Cond.sameField "HashTreeSigner$Sha512" "HashTreeSigner$Sha2" "block" "[B") ∈ vGW := vGW_at 233 (by decide +kernel) (by decide +kernel)
theorem vw_232 : (Jvm.Cond.fieldLink "HashTreeSigner$Sha512" (13 : Nat) "HashTreeSigner$Sha512" "block" "[B") ∈ vGW := vGW_at 232 (by decide +kernel) (by decide +kernel)
theorem fX6_13_X4 : vFld RX6 13 2 1 := ⟨RX4, TX4, 8, "HashTreeSigner$Sha512", "", rfl, by decide, ivw_X4, Or.inl vw_232, Or.inr vw_233⟩
theorem fX6_13_X6 : vFld RX6 13 4 1 := ⟨RX6, TX6, 8, "HashTreeSigner$Sha512", "", rfl, by decide, ivw_X6, Or.inl vw_232, Or.inr vw_233⟩
theorem vw_234 : (Jvm.Cond.fieldLink "HashTreeSigner$Sha2" (7 : Nat) "HashTreeSigner$Sha2" "state" "[J") ∈ vGW := vGW_at 234 (by decide +kernel) (by decide +kernel)
theorem fX3_7_X4 : vFld RX3 7 2 2 := ⟨RX4, TX4, 8, "HashTreeSigner$Sha2", "", rfl, by decide, ivw_X4, Or.inl vw_234, Or.inl rfl⟩
theorem fX3_7_X4f : vFldF RX3 7 2 2 (.array .long) := ⟨RX4, TX4, 8, "HashTreeSigner$Sha2", "", tyX4, rfl, by decide, ivw_X4, Or.inl vw_234, Or.inl rfl, tyX4_ok, nmX4, rfl, rfl, by decide +kernel⟩
theorem fX3_7_X6 : vFld RX3 7 4 2 := ⟨RX6, TX6, 8, "HashTreeSigner$Sha2", "", rfl, by decide, ivw_X6, Or.inl vw_234, Or.inl rfl⟩
theorem fX3_7_X6f : vFldF RX3 7 4 2 (.array .long) := ⟨RX6, TX6, 8, "HashTreeSigner$Sha2", "", tyX6, rfl, by decide, ivw_X6, Or.inl vw_234, Or.inl rfl, tyX6_ok, nmX6, rfl, rfl, by decide +kernel⟩
theorem vw_236 : (Jvm.Cond.sameField "HashTreeSigner$Sha256" "HashTreeSigner$Sha2" "state" "[J") ∈ vGW := vGW_at 236 (by decide +kernel) (by decide +kernel)
theorem vw_235 : (Jvm.Cond.fieldLink "HashTreeSigner$Sha256" (23 : Nat) "HashTreeSigner$Sha256" "state" "[J") ∈ vGW := vGW_at 235 (by decide +kernel) (by decide +kernel)
theorem fX4_23_X4 : vFld RX4 23 2 2 := ⟨RX4, TX4, 8, "HashTreeSigner$Sha256", "", rfl, by decide, ivw_X4, Or.inl vw_235, Or.inr vw_236⟩
theorem fX4_23_X6 : vFld RX4 23 4 2 := ⟨RX6, TX6, 8, "HashTreeSigner$Sha256", "", rfl, by decide, ivw_X6, Or.inl vw_235, Or.inr vw_236⟩
theorem vw_238 : (Jvm.Cond.sameField "HashTreeSigner$Sha512" "HashTreeSigner$Sha2" "state" "[J") ∈ vGW := vGW_at 238 (by decide +kernel) (by decide +kernel)
theorem vw_237 : (Jvm.Cond.fieldLink "HashTreeSigner$Sha512" (23 : Nat) "HashTreeSigner$Sha512" "state" "[J") ∈ vGW := vGW_at 237 (by decide +kernel) (by decide +kernel)
theorem fX6_23_X4 : vFld RX6 23 2 2 := ⟨RX4, TX4, 8, "HashTreeSigner$Sha512", "", rfl, by decide, ivw_X4, Or.inl vw_237, Or.inr vw_238⟩
theorem fX6_23_X6 : vFld RX6 23 4 2 := ⟨RX6, TX6, 8, "HashTreeSigner$Sha512", "", rfl, by decide, ivw_X6, Or.inl vw_237, Or.inr vw_238⟩
theorem vw_239 : (Jvm.Cond.fieldLink "HashTreeSigner$Sha2" (24 : Nat) "HashTreeSigner$Sha2" "wordShift" "I") ∈ vGW := vGW_at 239 (by decide +kernel) (by decide +kernel)
theorem fX3_24_X4 : vFld RX3 24 2 3 := ⟨RX4, TX4, 8, "HashTreeSigner$Sha2", "", rfl, by decide, ivw_X4, Or.inl vw_239, Or.inl rfl⟩
theorem fX3_24_X4f : vFldF RX3 24 2 3 .int := ⟨RX4, TX4, 8, "HashTreeSigner$Sha2", "", tyX4, rfl, by decide, ivw_X4, Or.inl vw_239, Or.inl rfl, tyX4_ok, nmX4, rfl, rfl, by decide +kernel⟩
theorem fX3_24_X6 : vFld RX3 24 4 3 := ⟨RX6, TX6, 8, "HashTreeSigner$Sha2", "", rfl, by decide, ivw_X6, Or.inl vw_239, Or.inl rfl⟩
theorem fX3_24_X6f : vFldF RX3 24 4 3 .int := ⟨RX6, TX6, 8, "HashTreeSigner$Sha2", "", tyX6, rfl, by decide, ivw_X6, Or.inl vw_239, Or.inl rfl, tyX6_ok, nmX6, rfl, rfl, by decide +kernel⟩
theorem vw_240 : (Jvm.Cond.fieldLink "HashTreeSigner$Sha2" (13 : Nat) "HashTreeSigner$Sha2" "kept" "[J") ∈ vGW := vGW_at 240 (by decide +kernel) (by decide +kernel)
theorem fX3_13_X4 : vFld RX3 13 2 4 := ⟨RX4, TX4, 8, "HashTreeSigner$Sha2", "", rfl, by decide, ivw_X4, Or.inl vw_240, Or.inl rfl⟩
theorem fX3_13_X4f : vFldF RX3 13 2 4 (.array .long) := ⟨RX4, TX4, 8, "HashTreeSigner$Sha2", "", tyX4, rfl, by decide, ivw_X4, Or.inl vw_240, Or.inl rfl, tyX4_ok, nmX4, rfl, rfl, by decide +kernel⟩
theorem fX3_13_X6 : vFld RX3 13 4 4 := ⟨RX6, TX6, 8, "HashTreeSigner$Sha2", "", rfl, by decide, ivw_X6, Or.inl vw_240, Or.inl rfl⟩
theorem fX3_13_X6f : vFldF RX3 13 4 4 (.array .long) := ⟨RX6, TX6, 8, "HashTreeSigner$Sha2", "", tyX6, rfl, by decide, ivw_X6, Or.inl vw_240, Or.inl rfl, tyX6_ok, nmX6, rfl, rfl, by decide +kernel⟩
theorem vw_241 : (Jvm.Cond.fieldLink "HashTreeSigner$Sha2" (16 : Nat) "HashTreeSigner$Sha2" "fill" "I") ∈ vGW := vGW_at 241 (by decide +kernel) (by decide +kernel)
theorem fX3_16_X4 : vFld RX3 16 2 5 := ⟨RX4, TX4, 8, "HashTreeSigner$Sha2", "", rfl, by decide, ivw_X4, Or.inl vw_241, Or.inl rfl⟩
theorem fX3_16_X4p : vFldP RX3 16 2 5 .int := ⟨RX4, TX4, 8, "HashTreeSigner$Sha2", "", tyX4, rfl, by decide, ivw_X4, Or.inl vw_241, Or.inl rfl, tyX4_ok, nmX4, rfl, by decide +kernel⟩
theorem fX3_16_X6 : vFld RX3 16 4 5 := ⟨RX6, TX6, 8, "HashTreeSigner$Sha2", "", rfl, by decide, ivw_X6, Or.inl vw_241, Or.inl rfl⟩
theorem fX3_16_X6p : vFldP RX3 16 4 5 .int := ⟨RX6, TX6, 8, "HashTreeSigner$Sha2", "", tyX6, rfl, by decide, ivw_X6, Or.inl vw_241, Or.inl rfl, tyX6_ok, nmX6, rfl, by decide +kernel⟩
theorem vw_242 : (Jvm.Cond.fieldLink "HashTreeSigner$Sha2" (20 : Nat) "HashTreeSigner$Sha2" "total" "J") ∈ vGW := vGW_at 242 (by decide +kernel) (by decide +kernel)
theorem fX3_20_X4 : vFld RX3 20 2 6 := ⟨RX4, TX4, 8, "HashTreeSigner$Sha2", "", rfl, by decide, ivw_X4, Or.inl vw_242, Or.inl rfl⟩
theorem fX3_20_X4p : vFldP RX3 20 2 6 .long := ⟨RX4, TX4, 8, "HashTreeSigner$Sha2", "", tyX4, rfl, by decide, ivw_X4, Or.inl vw_242, Or.inl rfl, tyX4_ok, nmX4, rfl, by decide +kernel⟩
theorem fX3_20_X6 : vFld RX3 20 4 6 := ⟨RX6, TX6, 8, "HashTreeSigner$Sha2", "", rfl, by decide, ivw_X6, Or.inl vw_242, Or.inl rfl⟩
theorem fX3_20_X6p : vFldP RX3 20 4 6 .long := ⟨RX6, TX6, 8, "HashTreeSigner$Sha2", "", tyX6, rfl, by decide, ivw_X6, Or.inl vw_242, Or.inl rfl, tyX6_ok, nmX6, rfl, by decide +kernel⟩
theorem vw_266 : (Jvm.Cond.fieldLink "HashTreeSigner$Sha512" (7 : Nat) "HashTreeSigner$Sha512" "w" "[J") ∈ vGW := vGW_at 266 (by decide +kernel) (by decide +kernel)
theorem fX6_7_X6 : vFld RX6 7 4 7 := ⟨RX6, TX6, 8, "HashTreeSigner$Sha512", "", rfl, by decide, ivw_X6, Or.inl vw_266, Or.inl rfl⟩
theorem fX6_7_X6f : vFldF RX6 7 4 7 (.array .long) := ⟨RX6, TX6, 8, "HashTreeSigner$Sha512", "", tyX6, rfl, by decide, ivw_X6, Or.inl vw_266, Or.inl rfl, tyX6_ok, nmX6, rfl, rfl, by decide +kernel⟩
theorem vw_277 : (Jvm.Cond.fieldLink "HashTreeSigner$Sha2Family" (17 : Nat) "HashTreeSigner$Sha2Family" "narrow" "LHashTreeSigner$Sha2;") ∈ vGW := vGW_at 277 (by decide +kernel) (by decide +kernel)
theorem fX5_17_X5 : vFld RX5 17 3 3 := ⟨RX5, TX5, 8, "HashTreeSigner$Sha2Family", "", rfl, by decide, ivw_X5, Or.inl vw_277, Or.inl rfl⟩
theorem fX5_17_X5f : vFldF RX5 17 3 3 (.object "HashTreeSigner$Sha2") := ⟨RX5, TX5, 8, "HashTreeSigner$Sha2Family", "", tyX5, rfl, by decide, ivw_X5, Or.inl vw_277, Or.inl rfl, tyX5_ok, nmX5, rfl, rfl, by decide +kernel⟩
theorem vw_278 : (Jvm.Cond.fieldLink "HashTreeSigner$Sha2Family" (26 : Nat) "HashTreeSigner$Sha2Family" "wide" "LHashTreeSigner$Sha2;") ∈ vGW := vGW_at 278 (by decide +kernel) (by decide +kernel)
theorem fX5_26_X5 : vFld RX5 26 3 4 := ⟨RX5, TX5, 8, "HashTreeSigner$Sha2Family", "", rfl, by decide, ivw_X5, Or.inl vw_278, Or.inl rfl⟩
theorem fX5_26_X5f : vFldF RX5 26 3 4 (.object "HashTreeSigner$Sha2") := ⟨RX5, TX5, 8, "HashTreeSigner$Sha2Family", "", tyX5, rfl, by decide, ivw_X5, Or.inl vw_278, Or.inl rfl, tyX5_ok, nmX5, rfl, rfl, by decide +kernel⟩
theorem vw_279 : (Jvm.Cond.fieldLink "HashTreeSigner$Sha2Family" (29 : Nat) "HashTreeSigner$Sha2Family" "pad" "[B") ∈ vGW := vGW_at 279 (by decide +kernel) (by decide +kernel)
theorem fX5_29_X5 : vFld RX5 29 3 5 := ⟨RX5, TX5, 8, "HashTreeSigner$Sha2Family", "", rfl, by decide, ivw_X5, Or.inl vw_279, Or.inl rfl⟩
theorem fX5_29_X5f : vFldF RX5 29 3 5 (.array .byte) := ⟨RX5, TX5, 8, "HashTreeSigner$Sha2Family", "", tyX5, rfl, by decide, ivw_X5, Or.inl vw_279, Or.inl rfl, tyX5_ok, nmX5, rfl, rfl, by decide +kernel⟩
theorem vw_280 : (Jvm.Cond.fieldLink "HashTreeSigner$Sha2Family" (33 : Nat) "HashTreeSigner$Sha2Family" "inner" "[B") ∈ vGW := vGW_at 280 (by decide +kernel) (by decide +kernel)
theorem fX5_33_X5 : vFld RX5 33 3 6 := ⟨RX5, TX5, 8, "HashTreeSigner$Sha2Family", "", rfl, by decide, ivw_X5, Or.inl vw_280, Or.inl rfl⟩
theorem fX5_33_X5f : vFldF RX5 33 3 6 (.array .byte) := ⟨RX5, TX5, 8, "HashTreeSigner$Sha2Family", "", tyX5, rfl, by decide, ivw_X5, Or.inl vw_280, Or.inl rfl, tyX5_ok, nmX5, rfl, rfl, by decide +kernel⟩
theorem vw_281 : (Jvm.Cond.fieldLink "HashTreeSigner$Sha2Family" (36 : Nat) "HashTreeSigner$Sha2Family" "counter" "[B") ∈ vGW := vGW_at 281 (by decide +kernel) (by decide +kernel)
theorem fX5_36_X5 : vFld RX5 36 3 7 := ⟨RX5, TX5, 8, "HashTreeSigner$Sha2Family", "", rfl, by decide, ivw_X5, Or.inl vw_281, Or.inl rfl⟩
theorem fX5_36_X5f : vFldF RX5 36 3 7 (.array .byte) := ⟨RX5, TX5, 8, "HashTreeSigner$Sha2Family", "", tyX5, rfl, by decide, ivw_X5, Or.inl vw_281, Or.inl rfl, tyX5_ok, nmX5, rfl, rfl, by decide +kernel⟩
theorem vw_296 : (Jvm.Cond.fieldLink "HashTreeSigner" (12 : Nat) "HashTreeSigner" "slots" "[[B") ∈ vGW := vGW_at 296 (by decide +kernel) (by decide +kernel)
theorem fX11_12_X11 : vFld RX11 12 8 0 := ⟨RX11, TX11, 8, "HashTreeSigner", "", rfl, by decide, ivw_X11, Or.inl vw_296, Or.inl rfl⟩
theorem fX11_12_X11f : vFldF RX11 12 8 0 (.array (.array .byte)) := ⟨RX11, TX11, 8, "HashTreeSigner", "", tyX11, rfl, by decide, ivw_X11, Or.inl vw_296, Or.inl rfl, tyX11_ok, nmX11, rfl, rfl, by decide +kernel⟩
theorem vw_297 : (Jvm.Cond.fieldLink "HashTreeSigner" (15 : Nat) "HashTreeSigner" "lengths" "[I") ∈ vGW := vGW_at 297 (by decide +kernel) (by decide +kernel)
theorem fX11_15_X11 : vFld RX11 15 8 1 := ⟨RX11, TX11, 8, "HashTreeSigner", "", rfl, by decide, ivw_X11, Or.inl vw_297, Or.inl rfl⟩
theorem fX11_15_X11f : vFldF RX11 15 8 1 (.array .int) := ⟨RX11, TX11, 8, "HashTreeSigner", "", tyX11, rfl, by decide, ivw_X11, Or.inl vw_297, Or.inl rfl, tyX11_ok, nmX11, rfl, rfl, by decide +kernel⟩
theorem vw_298 : (Jvm.Cond.fieldLink "HashTreeSigner" (19 : Nat) "HashTreeSigner" "tape" "[B") ∈ vGW := vGW_at 298 (by decide +kernel) (by decide +kernel)
theorem fX11_19_X11 : vFld RX11 19 8 2 := ⟨RX11, TX11, 8, "HashTreeSigner", "", rfl, by decide, ivw_X11, Or.inl vw_298, Or.inl rfl⟩
theorem fX11_19_X11f : vFldF RX11 19 8 2 (.array .byte) := ⟨RX11, TX11, 8, "HashTreeSigner", "", tyX11, rfl, by decide, ivw_X11, Or.inl vw_298, Or.inl rfl, tyX11_ok, nmX11, rfl, rfl, by decide +kernel⟩
theorem vw_299 : (Jvm.Cond.fieldLink "HashTreeSigner" (23 : Nat) "HashTreeSigner" "tapeLength" "I") ∈ vGW := vGW_at 299 (by decide +kernel) (by decide +kernel)
theorem fX11_23_X11 : vFld RX11 23 8 3 := ⟨RX11, TX11, 8, "HashTreeSigner", "", rfl, by decide, ivw_X11, Or.inl vw_299, Or.inl rfl⟩
theorem fX11_23_X11p : vFldP RX11 23 8 3 .int := ⟨RX11, TX11, 8, "HashTreeSigner", "", tyX11, rfl, by decide, ivw_X11, Or.inl vw_299, Or.inl rfl, tyX11_ok, nmX11, rfl, by decide +kernel⟩
theorem vw_300 : (Jvm.Cond.fieldLink "HashTreeSigner" (28 : Nat) "HashTreeSigner" "signed" "[B") ∈ vGW := vGW_at 300 (by decide +kernel) (by decide +kernel)
theorem fX11_28_X11 : vFld RX11 28 8 4 := ⟨RX11, TX11, 8, "HashTreeSigner", "", rfl, by decide, ivw_X11, Or.inl vw_300, Or.inl rfl⟩
theorem fX11_28_X11f : vFldF RX11 28 8 4 (.array .byte) := ⟨RX11, TX11, 8, "HashTreeSigner", "", tyX11, rfl, by decide, ivw_X11, Or.inl vw_300, Or.inl rfl, tyX11_ok, nmX11, rfl, rfl, by decide +kernel⟩
theorem vw_301 : (Jvm.Cond.fieldLink "HashTreeSigner" (31 : Nat) "HashTreeSigner" "signedLength" "I") ∈ vGW := vGW_at 301 (by decide +kernel) (by decide +kernel)
theorem fX11_31_X11 : vFld RX11 31 8 5 := ⟨RX11, TX11, 8, "HashTreeSigner", "", rfl, by decide, ivw_X11, Or.inl vw_301, Or.inl rfl⟩
theorem fX11_31_X11p : vFldP RX11 31 8 5 .int := ⟨RX11, TX11, 8, "HashTreeSigner", "", tyX11, rfl, by decide, ivw_X11, Or.inl vw_301, Or.inl rfl, tyX11_ok, nmX11, rfl, by decide +kernel⟩
theorem vw_302 : (Jvm.Cond.fieldLink "HashTreeSigner" (42 : Nat) "HashTreeSigner" "shakeTrees" "LHashTreeSigner$Trees;") ∈ vGW := vGW_at 302 (by decide +kernel) (by decide +kernel)
theorem fX11_42_X11 : vFld RX11 42 8 6 := ⟨RX11, TX11, 8, "HashTreeSigner", "", rfl, by decide, ivw_X11, Or.inl vw_302, Or.inl rfl⟩
theorem fX11_42_X11f : vFldF RX11 42 8 6 (.object "HashTreeSigner$Trees") := ⟨RX11, TX11, 8, "HashTreeSigner", "", tyX11, rfl, by decide, ivw_X11, Or.inl vw_302, Or.inl rfl, tyX11_ok, nmX11, rfl, rfl, by decide +kernel⟩
theorem vw_303 : (Jvm.Cond.fieldLink "HashTreeSigner" (49 : Nat) "HashTreeSigner" "sha2Trees" "LHashTreeSigner$Trees;") ∈ vGW := vGW_at 303 (by decide +kernel) (by decide +kernel)
theorem fX11_49_X11 : vFld RX11 49 8 7 := ⟨RX11, TX11, 8, "HashTreeSigner", "", rfl, by decide, ivw_X11, Or.inl vw_303, Or.inl rfl⟩
theorem fX11_49_X11f : vFldF RX11 49 8 7 (.object "HashTreeSigner$Trees") := ⟨RX11, TX11, 8, "HashTreeSigner", "", tyX11, rfl, by decide, ivw_X11, Or.inl vw_303, Or.inl rfl, tyX11_ok, nmX11, rfl, rfl, by decide +kernel⟩
theorem vw_1174 : (Jvm.Cond.fieldLink "HashTreeSignerModel" (10 : Nat) "HashTreeSignerModel" "tape" "[B") ∈ vGW := vGW_at 1174 (by decide +kernel) (by decide +kernel)
theorem fX12_10_X12 : vFld RX12 10 9 0 := ⟨RX12, TX12, 49, "HashTreeSignerModel", "", rfl, by decide, ivw_X12, Or.inl vw_1174, Or.inl rfl⟩
theorem fX12_10_X12f : vFldF RX12 10 9 0 (.array .byte) := ⟨RX12, TX12, 49, "HashTreeSignerModel", "", tyX12, rfl, by decide, ivw_X12, Or.inl vw_1174, Or.inl rfl, tyX12_ok, nmX12, rfl, rfl, by decide +kernel⟩
theorem vw_1175 : (Jvm.Cond.fieldLink "HashTreeSignerModel" (16 : Nat) "HashTreeSignerModel" "slot" "[[B") ∈ vGW := vGW_at 1175 (by decide +kernel) (by decide +kernel)
theorem fX12_16_X12 : vFld RX12 16 9 1 := ⟨RX12, TX12, 49, "HashTreeSignerModel", "", rfl, by decide, ivw_X12, Or.inl vw_1175, Or.inl rfl⟩
theorem fX12_16_X12f : vFldF RX12 16 9 1 (.array (.array .byte)) := ⟨RX12, TX12, 49, "HashTreeSignerModel", "", tyX12, rfl, by decide, ivw_X12, Or.inl vw_1175, Or.inl rfl, tyX12_ok, nmX12, rfl, rfl, by decide +kernel⟩
theorem vw_1176 : (Jvm.Cond.fieldLink "HashTreeSignerModel" (19 : Nat) "HashTreeSignerModel" "length" "[I") ∈ vGW := vGW_at 1176 (by decide +kernel) (by decide +kernel)
theorem fX12_19_X12 : vFld RX12 19 9 2 := ⟨RX12, TX12, 49, "HashTreeSignerModel", "", rfl, by decide, ivw_X12, Or.inl vw_1176, Or.inl rfl⟩
theorem fX12_19_X12f : vFldF RX12 19 9 2 (.array .int) := ⟨RX12, TX12, 49, "HashTreeSignerModel", "", tyX12, rfl, by decide, ivw_X12, Or.inl vw_1176, Or.inl rfl, tyX12_ok, nmX12, rfl, rfl, by decide +kernel⟩
theorem vw_1177 : (Jvm.Cond.fieldLink "HashTreeSignerModel" (127 : Nat) "HashTreeSignerModel" "taped" "I") ∈ vGW := vGW_at 1177 (by decide +kernel) (by decide +kernel)
theorem fX12_127_X12 : vFld RX12 127 9 3 := ⟨RX12, TX12, 49, "HashTreeSignerModel", "", rfl, by decide, ivw_X12, Or.inl vw_1177, Or.inl rfl⟩
theorem fX12_127_X12p : vFldP RX12 127 9 3 .int := ⟨RX12, TX12, 49, "HashTreeSignerModel", "", tyX12, rfl, by decide, ivw_X12, Or.inl vw_1177, Or.inl rfl, tyX12_ok, nmX12, rfl, by decide +kernel⟩
theorem vw_1178 : (Jvm.Cond.fieldLink "HashTreeSignerModel" (123 : Nat) "HashTreeSignerModel" "code" "I") ∈ vGW := vGW_at 1178 (by decide +kernel) (by decide +kernel)
theorem fX12_123_X12 : vFld RX12 123 9 4 := ⟨RX12, TX12, 49, "HashTreeSignerModel", "", rfl, by decide, ivw_X12, Or.inl vw_1178, Or.inl rfl⟩
theorem fX12_123_X12p : vFldP RX12 123 9 4 .int := ⟨RX12, TX12, 49, "HashTreeSignerModel", "", tyX12, rfl, by decide, ivw_X12, Or.inl vw_1178, Or.inl rfl, tyX12_ok, nmX12, rfl, by decide +kernel⟩
theorem vw_1179 : (Jvm.Cond.fieldLink "HashTreeSignerModel" (23 : Nat) "HashTreeSignerModel" "roots" "[J") ∈ vGW := vGW_at 1179 (by decide +kernel) (by decide +kernel)
theorem fX12_23_X12 : vFld RX12 23 9 5 := ⟨RX12, TX12, 49, "HashTreeSignerModel", "", rfl, by decide, ivw_X12, Or.inl vw_1179, Or.inl rfl⟩
theorem fX12_23_X12f : vFldF RX12 23 9 5 (.array .long) := ⟨RX12, TX12, 49, "HashTreeSignerModel", "", tyX12, rfl, by decide, ivw_X12, Or.inl vw_1179, Or.inl rfl, tyX12_ok, nmX12, rfl, rfl, by decide +kernel⟩
theorem vw_1180 : (Jvm.Cond.fieldLink "HashTreeSignerModel" (27 : Nat) "HashTreeSignerModel" "cubes" "[J") ∈ vGW := vGW_at 1180 (by decide +kernel) (by decide +kernel)
theorem fX12_27_X12 : vFld RX12 27 9 6 := ⟨RX12, TX12, 49, "HashTreeSignerModel", "", rfl, by decide, ivw_X12, Or.inl vw_1180, Or.inl rfl⟩
theorem fX12_27_X12f : vFldF RX12 27 9 6 (.array .long) := ⟨RX12, TX12, 49, "HashTreeSignerModel", "", tyX12, rfl, by decide, ivw_X12, Or.inl vw_1180, Or.inl rfl, tyX12_ok, nmX12, rfl, rfl, by decide +kernel⟩
theorem vw_1181 : (Jvm.Cond.fieldLink "HashTreeSignerModel" (30 : Nat) "HashTreeSignerModel" "start224" "[J") ∈ vGW := vGW_at 1181 (by decide +kernel) (by decide +kernel)
theorem fX12_30_X12 : vFld RX12 30 9 7 := ⟨RX12, TX12, 49, "HashTreeSignerModel", "", rfl, by decide, ivw_X12, Or.inl vw_1181, Or.inl rfl⟩
theorem fX12_30_X12f : vFldF RX12 30 9 7 (.array .long) := ⟨RX12, TX12, 49, "HashTreeSignerModel", "", tyX12, rfl, by decide, ivw_X12, Or.inl vw_1181, Or.inl rfl, tyX12_ok, nmX12, rfl, rfl, by decide +kernel⟩
theorem vw_1182 : (Jvm.Cond.fieldLink "HashTreeSignerModel" (33 : Nat) "HashTreeSignerModel" "start256" "[J") ∈ vGW := vGW_at 1182 (by decide +kernel) (by decide +kernel)
theorem fX12_33_X12 : vFld RX12 33 9 8 := ⟨RX12, TX12, 49, "HashTreeSignerModel", "", rfl, by decide, ivw_X12, Or.inl vw_1182, Or.inl rfl⟩
theorem fX12_33_X12f : vFldF RX12 33 9 8 (.array .long) := ⟨RX12, TX12, 49, "HashTreeSignerModel", "", tyX12, rfl, by decide, ivw_X12, Or.inl vw_1182, Or.inl rfl, tyX12_ok, nmX12, rfl, rfl, by decide +kernel⟩
theorem vw_1183 : (Jvm.Cond.fieldLink "HashTreeSignerModel" (36 : Nat) "HashTreeSignerModel" "limbs" "[J") ∈ vGW := vGW_at 1183 (by decide +kernel) (by decide +kernel)
theorem fX12_36_X12 : vFld RX12 36 9 9 := ⟨RX12, TX12, 49, "HashTreeSignerModel", "", rfl, by decide, ivw_X12, Or.inl vw_1183, Or.inl rfl⟩
theorem fX12_36_X12f : vFldF RX12 36 9 9 (.array .long) := ⟨RX12, TX12, 49, "HashTreeSignerModel", "", tyX12, rfl, by decide, ivw_X12, Or.inl vw_1183, Or.inl rfl, tyX12_ok, nmX12, rfl, rfl, by decide +kernel⟩
theorem vw_1184 : (Jvm.Cond.fieldLink "HashTreeSignerModel" (39 : Nat) "HashTreeSignerModel" "product" "[J") ∈ vGW := vGW_at 1184 (by decide +kernel) (by decide +kernel)
theorem fX12_39_X12 : vFld RX12 39 9 10 := ⟨RX12, TX12, 49, "HashTreeSignerModel", "", rfl, by decide, ivw_X12, Or.inl vw_1184, Or.inl rfl⟩
theorem fX12_39_X12f : vFldF RX12 39 9 10 (.array .long) := ⟨RX12, TX12, 49, "HashTreeSignerModel", "", tyX12, rfl, by decide, ivw_X12, Or.inl vw_1184, Or.inl rfl, tyX12_ok, nmX12, rfl, rfl, by decide +kernel⟩
theorem vw_1185 : (Jvm.Cond.fieldLink "HashTreeSignerModel" (42 : Nat) "HashTreeSignerModel" "turns" "[I") ∈ vGW := vGW_at 1185 (by decide +kernel) (by decide +kernel)
theorem fX12_42_X12 : vFld RX12 42 9 11 := ⟨RX12, TX12, 49, "HashTreeSignerModel", "", rfl, by decide, ivw_X12, Or.inl vw_1185, Or.inl rfl⟩
theorem fX12_42_X12f : vFldF RX12 42 9 11 (.array .int) := ⟨RX12, TX12, 49, "HashTreeSignerModel", "", tyX12, rfl, by decide, ivw_X12, Or.inl vw_1185, Or.inl rfl, tyX12_ok, nmX12, rfl, rfl, by decide +kernel⟩
theorem vw_1186 : (Jvm.Cond.fieldLink "HashTreeSignerModel" (45 : Nat) "HashTreeSignerModel" "round" "[J") ∈ vGW := vGW_at 1186 (by decide +kernel) (by decide +kernel)
theorem fX12_45_X12 : vFld RX12 45 9 12 := ⟨RX12, TX12, 49, "HashTreeSignerModel", "", rfl, by decide, ivw_X12, Or.inl vw_1186, Or.inl rfl⟩
theorem fX12_45_X12f : vFldF RX12 45 9 12 (.array .long) := ⟨RX12, TX12, 49, "HashTreeSignerModel", "", tyX12, rfl, by decide, ivw_X12, Or.inl vw_1186, Or.inl rfl, tyX12_ok, nmX12, rfl, rfl, by decide +kernel⟩
theorem vw_1187 : (Jvm.Cond.fieldLink "HashTreeSignerModel" (48 : Nat) "HashTreeSignerModel" "state" "[J") ∈ vGW := vGW_at 1187 (by decide +kernel) (by decide +kernel)
theorem fX12_48_X12 : vFld RX12 48 9 13 := ⟨RX12, TX12, 49, "HashTreeSignerModel", "", rfl, by decide, ivw_X12, Or.inl vw_1187, Or.inl rfl⟩
theorem fX12_48_X12f : vFldF RX12 48 9 13 (.array .long) := ⟨RX12, TX12, 49, "HashTreeSignerModel", "", tyX12, rfl, by decide, ivw_X12, Or.inl vw_1187, Or.inl rfl, tyX12_ok, nmX12, rfl, rfl, by decide +kernel⟩
theorem vw_1188 : (Jvm.Cond.fieldLink "HashTreeSignerModel" (51 : Nat) "HashTreeSignerModel" "other" "[J") ∈ vGW := vGW_at 1188 (by decide +kernel) (by decide +kernel)
theorem fX12_51_X12 : vFld RX12 51 9 14 := ⟨RX12, TX12, 49, "HashTreeSignerModel", "", rfl, by decide, ivw_X12, Or.inl vw_1188, Or.inl rfl⟩
theorem fX12_51_X12f : vFldF RX12 51 9 14 (.array .long) := ⟨RX12, TX12, 49, "HashTreeSignerModel", "", tyX12, rfl, by decide, ivw_X12, Or.inl vw_1188, Or.inl rfl, tyX12_ok, nmX12, rfl, rfl, by decide +kernel⟩
theorem vw_1189 : (Jvm.Cond.fieldLink "HashTreeSignerModel" (54 : Nat) "HashTreeSignerModel" "column" "[J") ∈ vGW := vGW_at 1189 (by decide +kernel) (by decide +kernel)
theorem fX12_54_X12 : vFld RX12 54 9 15 := ⟨RX12, TX12, 49, "HashTreeSignerModel", "", rfl, by decide, ivw_X12, Or.inl vw_1189, Or.inl rfl⟩
theorem fX12_54_X12f : vFldF RX12 54 9 15 (.array .long) := ⟨RX12, TX12, 49, "HashTreeSignerModel", "", tyX12, rfl, by decide, ivw_X12, Or.inl vw_1189, Or.inl rfl, tyX12_ok, nmX12, rfl, rfl, by decide +kernel⟩
theorem vw_1190 : (Jvm.Cond.fieldLink "HashTreeSignerModel" (57 : Nat) "HashTreeSignerModel" "words" "[J") ∈ vGW := vGW_at 1190 (by decide +kernel) (by decide +kernel)
theorem fX12_57_X12 : vFld RX12 57 9 16 := ⟨RX12, TX12, 49, "HashTreeSignerModel", "", rfl, by decide, ivw_X12, Or.inl vw_1190, Or.inl rfl⟩
theorem fX12_57_X12f : vFldF RX12 57 9 16 (.array .long) := ⟨RX12, TX12, 49, "HashTreeSignerModel", "", tyX12, rfl, by decide, ivw_X12, Or.inl vw_1190, Or.inl rfl, tyX12_ok, nmX12, rfl, rfl, by decide +kernel⟩
theorem vw_1191 : (Jvm.Cond.fieldLink "HashTreeSignerModel" (60 : Nat) "HashTreeSignerModel" "block" "[B") ∈ vGW := vGW_at 1191 (by decide +kernel) (by decide +kernel)
theorem fX12_60_X12 : vFld RX12 60 9 17 := ⟨RX12, TX12, 49, "HashTreeSignerModel", "", rfl, by decide, ivw_X12, Or.inl vw_1191, Or.inl rfl⟩
theorem fX12_60_X12f : vFldF RX12 60 9 17 (.array .byte) := ⟨RX12, TX12, 49, "HashTreeSignerModel", "", tyX12, rfl, by decide, ivw_X12, Or.inl vw_1191, Or.inl rfl, tyX12_ok, nmX12, rfl, rfl, by decide +kernel⟩
theorem vw_1192 : (Jvm.Cond.fieldLink "HashTreeSignerModel" (177 : Nat) "HashTreeSignerModel" "kind" "I") ∈ vGW := vGW_at 1192 (by decide +kernel) (by decide +kernel)
theorem fX12_177_X12 : vFld RX12 177 9 18 := ⟨RX12, TX12, 49, "HashTreeSignerModel", "", rfl, by decide, ivw_X12, Or.inl vw_1192, Or.inl rfl⟩
theorem fX12_177_X12p : vFldP RX12 177 9 18 .int := ⟨RX12, TX12, 49, "HashTreeSignerModel", "", tyX12, rfl, by decide, ivw_X12, Or.inl vw_1192, Or.inl rfl, tyX12_ok, nmX12, rfl, by decide +kernel⟩
theorem vw_1193 : (Jvm.Cond.fieldLink "HashTreeSignerModel" (193 : Nat) "HashTreeSignerModel" "rate" "I") ∈ vGW := vGW_at 1193 (by decide +kernel) (by decide +kernel)
theorem fX12_193_X12 : vFld RX12 193 9 19 := ⟨RX12, TX12, 49, "HashTreeSignerModel", "", rfl, by decide, ivw_X12, Or.inl vw_1193, Or.inl rfl⟩
theorem fX12_193_X12p : vFldP RX12 193 9 19 .int := ⟨RX12, TX12, 49, "HashTreeSignerModel", "", tyX12, rfl, by decide, ivw_X12, Or.inl vw_1193, Or.inl rfl, tyX12_ok, nmX12, rfl, by decide +kernel⟩
theorem vw_1194 : (Jvm.Cond.fieldLink "HashTreeSignerModel" (180 : Nat) "HashTreeSignerModel" "filled" "I") ∈ vGW := vGW_at 1194 (by decide +kernel) (by decide +kernel)
theorem fX12_180_X12 : vFld RX12 180 9 20 := ⟨RX12, TX12, 49, "HashTreeSignerModel", "", rfl, by decide, ivw_X12, Or.inl vw_1194, Or.inl rfl⟩
theorem fX12_180_X12p : vFldP RX12 180 9 20 .int := ⟨RX12, TX12, 49, "HashTreeSignerModel", "", tyX12, rfl, by decide, ivw_X12, Or.inl vw_1194, Or.inl rfl, tyX12_ok, nmX12, rfl, by decide +kernel⟩
theorem vw_1195 : (Jvm.Cond.fieldLink "HashTreeSignerModel" (183 : Nat) "HashTreeSignerModel" "total" "J") ∈ vGW := vGW_at 1195 (by decide +kernel) (by decide +kernel)
theorem fX12_183_X12 : vFld RX12 183 9 21 := ⟨RX12, TX12, 49, "HashTreeSignerModel", "", rfl, by decide, ivw_X12, Or.inl vw_1195, Or.inl rfl⟩
theorem fX12_183_X12p : vFldP RX12 183 9 21 .long := ⟨RX12, TX12, 49, "HashTreeSignerModel", "", tyX12, rfl, by decide, ivw_X12, Or.inl vw_1195, Or.inl rfl, tyX12_ok, nmX12, rfl, by decide +kernel⟩
theorem vw_1196 : (Jvm.Cond.fieldLink "HashTreeSignerModel" (63 : Nat) "HashTreeSignerModel" "hashKey" "[B") ∈ vGW := vGW_at 1196 (by decide +kernel) (by decide +kernel)
theorem fX12_63_X12 : vFld RX12 63 9 22 := ⟨RX12, TX12, 49, "HashTreeSignerModel", "", rfl, by decide, ivw_X12, Or.inl vw_1196, Or.inl rfl⟩
theorem fX12_63_X12f : vFldF RX12 63 9 22 (.array .byte) := ⟨RX12, TX12, 49, "HashTreeSignerModel", "", tyX12, rfl, by decide, ivw_X12, Or.inl vw_1196, Or.inl rfl, tyX12_ok, nmX12, rfl, rfl, by decide +kernel⟩
theorem vw_1197 : (Jvm.Cond.fieldLink "HashTreeSignerModel" (66 : Nat) "HashTreeSignerModel" "inner" "[B") ∈ vGW := vGW_at 1197 (by decide +kernel) (by decide +kernel)
theorem fX12_66_X12 : vFld RX12 66 9 23 := ⟨RX12, TX12, 49, "HashTreeSignerModel", "", rfl, by decide, ivw_X12, Or.inl vw_1197, Or.inl rfl⟩
theorem fX12_66_X12f : vFldF RX12 66 9 23 (.array .byte) := ⟨RX12, TX12, 49, "HashTreeSignerModel", "", tyX12, rfl, by decide, ivw_X12, Or.inl vw_1197, Or.inl rfl, tyX12_ok, nmX12, rfl, rfl, by decide +kernel⟩
theorem vw_1198 : (Jvm.Cond.fieldLink "HashTreeSignerModel" (69 : Nat) "HashTreeSignerModel" "signed" "[B") ∈ vGW := vGW_at 1198 (by decide +kernel) (by decide +kernel)
theorem fX12_69_X12 : vFld RX12 69 9 24 := ⟨RX12, TX12, 49, "HashTreeSignerModel", "", rfl, by decide, ivw_X12, Or.inl vw_1198, Or.inl rfl⟩
theorem fX12_69_X12f : vFldF RX12 69 9 24 (.array .byte) := ⟨RX12, TX12, 49, "HashTreeSignerModel", "", tyX12, rfl, by decide, ivw_X12, Or.inl vw_1198, Or.inl rfl, tyX12_ok, nmX12, rfl, rfl, by decide +kernel⟩
theorem vw_1199 : (Jvm.Cond.fieldLink "HashTreeSignerModel" (72 : Nat) "HashTreeSignerModel" "hash" "[B") ∈ vGW := vGW_at 1199 (by decide +kernel) (by decide +kernel)
theorem fX12_72_X12 : vFld RX12 72 9 25 := ⟨RX12, TX12, 49, "HashTreeSignerModel", "", rfl, by decide, ivw_X12, Or.inl vw_1199, Or.inl rfl⟩
theorem fX12_72_X12f : vFldF RX12 72 9 25 (.array .byte) := ⟨RX12, TX12, 49, "HashTreeSignerModel", "", tyX12, rfl, by decide, ivw_X12, Or.inl vw_1199, Or.inl rfl, tyX12_ok, nmX12, rfl, rfl, by decide +kernel⟩
theorem vw_1200 : (Jvm.Cond.fieldLink "HashTreeSignerModel" (75 : Nat) "HashTreeSignerModel" "buffer" "[B") ∈ vGW := vGW_at 1200 (by decide +kernel) (by decide +kernel)
theorem fX12_75_X12 : vFld RX12 75 9 26 := ⟨RX12, TX12, 49, "HashTreeSignerModel", "", rfl, by decide, ivw_X12, Or.inl vw_1200, Or.inl rfl⟩
theorem fX12_75_X12f : vFldF RX12 75 9 26 (.array .byte) := ⟨RX12, TX12, 49, "HashTreeSignerModel", "", tyX12, rfl, by decide, ivw_X12, Or.inl vw_1200, Or.inl rfl, tyX12_ok, nmX12, rfl, rfl, by decide +kernel⟩
theorem vw_1201 : (Jvm.Cond.fieldLink "HashTreeSignerModel" (78 : Nat) "HashTreeSignerModel" "packet" "[B") ∈ vGW := vGW_at 1201 (by decide +kernel) (by decide +kernel)
theorem fX12_78_X12 : vFld RX12 78 9 27 := ⟨RX12, TX12, 49, "HashTreeSignerModel", "", rfl, by decide, ivw_X12, Or.inl vw_1201, Or.inl rfl⟩
theorem fX12_78_X12f : vFldF RX12 78 9 27 (.array .byte) := ⟨RX12, TX12, 49, "HashTreeSignerModel", "", tyX12, rfl, by decide, ivw_X12, Or.inl vw_1201, Or.inl rfl, tyX12_ok, nmX12, rfl, rfl, by decide +kernel⟩
theorem vw_1202 : (Jvm.Cond.fieldLink "HashTreeSignerModel" (81 : Nat) "HashTreeSignerModel" "address" "[B") ∈ vGW := vGW_at 1202 (by decide +kernel) (by decide +kernel)
theorem fX12_81_X12 : vFld RX12 81 9 28 := ⟨RX12, TX12, 49, "HashTreeSignerModel", "", rfl, by decide, ivw_X12, Or.inl vw_1202, Or.inl rfl⟩
theorem fX12_81_X12f : vFldF RX12 81 9 28 (.array .byte) := ⟨RX12, TX12, 49, "HashTreeSignerModel", "", tyX12, rfl, by decide, ivw_X12, Or.inl vw_1202, Or.inl rfl, tyX12_ok, nmX12, rfl, rfl, by decide +kernel⟩
theorem vw_1203 : (Jvm.Cond.fieldLink "HashTreeSignerModel" (84 : Nat) "HashTreeSignerModel" "pairs" "[[B") ∈ vGW := vGW_at 1203 (by decide +kernel) (by decide +kernel)
theorem fX12_84_X12 : vFld RX12 84 9 29 := ⟨RX12, TX12, 49, "HashTreeSignerModel", "", rfl, by decide, ivw_X12, Or.inl vw_1203, Or.inl rfl⟩
theorem fX12_84_X12f : vFldF RX12 84 9 29 (.array (.array .byte)) := ⟨RX12, TX12, 49, "HashTreeSignerModel", "", tyX12, rfl, by decide, ivw_X12, Or.inl vw_1203, Or.inl rfl, tyX12_ok, nmX12, rfl, rfl, by decide +kernel⟩
theorem vw_1204 : (Jvm.Cond.fieldLink "HashTreeSignerModel" (87 : Nat) "HashTreeSignerModel" "ends" "[B") ∈ vGW := vGW_at 1204 (by decide +kernel) (by decide +kernel)
theorem fX12_87_X12 : vFld RX12 87 9 30 := ⟨RX12, TX12, 49, "HashTreeSignerModel", "", rfl, by decide, ivw_X12, Or.inl vw_1204, Or.inl rfl⟩
theorem fX12_87_X12f : vFldF RX12 87 9 30 (.array .byte) := ⟨RX12, TX12, 49, "HashTreeSignerModel", "", tyX12, rfl, by decide, ivw_X12, Or.inl vw_1204, Or.inl rfl, tyX12_ok, nmX12, rfl, rfl, by decide +kernel⟩
theorem vw_1205 : (Jvm.Cond.fieldLink "HashTreeSignerModel" (90 : Nat) "HashTreeSignerModel" "leaves" "[B") ∈ vGW := vGW_at 1205 (by decide +kernel) (by decide +kernel)
theorem fX12_90_X12 : vFld RX12 90 9 31 := ⟨RX12, TX12, 49, "HashTreeSignerModel", "", rfl, by decide, ivw_X12, Or.inl vw_1205, Or.inl rfl⟩
theorem fX12_90_X12f : vFldF RX12 90 9 31 (.array .byte) := ⟨RX12, TX12, 49, "HashTreeSignerModel", "", tyX12, rfl, by decide, ivw_X12, Or.inl vw_1205, Or.inl rfl, tyX12_ok, nmX12, rfl, rfl, by decide +kernel⟩
theorem vw_1206 : (Jvm.Cond.fieldLink "HashTreeSignerModel" (93 : Nat) "HashTreeSignerModel" "secret" "[B") ∈ vGW := vGW_at 1206 (by decide +kernel) (by decide +kernel)
theorem fX12_93_X12 : vFld RX12 93 9 32 := ⟨RX12, TX12, 49, "HashTreeSignerModel", "", rfl, by decide, ivw_X12, Or.inl vw_1206, Or.inl rfl⟩
theorem fX12_93_X12f : vFldF RX12 93 9 32 (.array .byte) := ⟨RX12, TX12, 49, "HashTreeSignerModel", "", tyX12, rfl, by decide, ivw_X12, Or.inl vw_1206, Or.inl rfl, tyX12_ok, nmX12, rfl, rfl, by decide +kernel⟩
theorem vw_1207 : (Jvm.Cond.fieldLink "HashTreeSignerModel" (96 : Nat) "HashTreeSignerModel" "walk" "[B") ∈ vGW := vGW_at 1207 (by decide +kernel) (by decide +kernel)
theorem fX12_96_X12 : vFld RX12 96 9 33 := ⟨RX12, TX12, 49, "HashTreeSignerModel", "", rfl, by decide, ivw_X12, Or.inl vw_1207, Or.inl rfl⟩
theorem fX12_96_X12f : vFldF RX12 96 9 33 (.array .byte) := ⟨RX12, TX12, 49, "HashTreeSignerModel", "", tyX12, rfl, by decide, ivw_X12, Or.inl vw_1207, Or.inl rfl, tyX12_ok, nmX12, rfl, rfl, by decide +kernel⟩
theorem vw_1208 : (Jvm.Cond.fieldLink "HashTreeSignerModel" (99 : Nat) "HashTreeSignerModel" "long1" "[B") ∈ vGW := vGW_at 1208 (by decide +kernel) (by decide +kernel)
theorem fX12_99_X12 : vFld RX12 99 9 34 := ⟨RX12, TX12, 49, "HashTreeSignerModel", "", rfl, by decide, ivw_X12, Or.inl vw_1208, Or.inl rfl⟩
theorem fX12_99_X12f : vFldF RX12 99 9 34 (.array .byte) := ⟨RX12, TX12, 49, "HashTreeSignerModel", "", tyX12, rfl, by decide, ivw_X12, Or.inl vw_1208, Or.inl rfl, tyX12_ok, nmX12, rfl, rfl, by decide +kernel⟩
theorem vw_1209 : (Jvm.Cond.fieldLink "HashTreeSignerModel" (102 : Nat) "HashTreeSignerModel" "told" "[B") ∈ vGW := vGW_at 1209 (by decide +kernel) (by decide +kernel)
theorem fX12_102_X12 : vFld RX12 102 9 35 := ⟨RX12, TX12, 49, "HashTreeSignerModel", "", rfl, by decide, ivw_X12, Or.inl vw_1209, Or.inl rfl⟩
theorem fX12_102_X12f : vFldF RX12 102 9 35 (.array .byte) := ⟨RX12, TX12, 49, "HashTreeSignerModel", "", tyX12, rfl, by decide, ivw_X12, Or.inl vw_1209, Or.inl rfl, tyX12_ok, nmX12, rfl, rfl, by decide +kernel⟩
theorem vw_1210 : (Jvm.Cond.fieldLink "HashTreeSignerModel" (105 : Nat) "HashTreeSignerModel" "digits" "[I") ∈ vGW := vGW_at 1210 (by decide +kernel) (by decide +kernel)
theorem fX12_105_X12 : vFld RX12 105 9 36 := ⟨RX12, TX12, 49, "HashTreeSignerModel", "", rfl, by decide, ivw_X12, Or.inl vw_1210, Or.inl rfl⟩
theorem fX12_105_X12f : vFldF RX12 105 9 36 (.array .int) := ⟨RX12, TX12, 49, "HashTreeSignerModel", "", tyX12, rfl, by decide, ivw_X12, Or.inl vw_1210, Or.inl rfl, tyX12_ok, nmX12, rfl, rfl, by decide +kernel⟩
theorem vw_1211 : (Jvm.Cond.fieldLink "HashTreeSignerModel" (108 : Nat) "HashTreeSignerModel" "publicSeed" "[B") ∈ vGW := vGW_at 1211 (by decide +kernel) (by decide +kernel)
theorem fX12_108_X12 : vFld RX12 108 9 37 := ⟨RX12, TX12, 49, "HashTreeSignerModel", "", rfl, by decide, ivw_X12, Or.inl vw_1211, Or.inl rfl⟩
theorem fX12_108_X12f : vFldF RX12 108 9 37 (.array .byte) := ⟨RX12, TX12, 49, "HashTreeSignerModel", "", tyX12, rfl, by decide, ivw_X12, Or.inl vw_1211, Or.inl rfl, tyX12_ok, nmX12, rfl, rfl, by decide +kernel⟩
theorem vw_1212 : (Jvm.Cond.fieldLink "HashTreeSignerModel" (111 : Nat) "HashTreeSignerModel" "secretSeed" "[B") ∈ vGW := vGW_at 1212 (by decide +kernel) (by decide +kernel)
theorem fX12_111_X12 : vFld RX12 111 9 38 := ⟨RX12, TX12, 49, "HashTreeSignerModel", "", rfl, by decide, ivw_X12, Or.inl vw_1212, Or.inl rfl⟩
theorem fX12_111_X12f : vFldF RX12 111 9 38 (.array .byte) := ⟨RX12, TX12, 49, "HashTreeSignerModel", "", tyX12, rfl, by decide, ivw_X12, Or.inl vw_1212, Or.inl rfl, tyX12_ok, nmX12, rfl, rfl, by decide +kernel⟩
theorem vw_1213 : (Jvm.Cond.fieldLink "HashTreeSignerModel" (114 : Nat) "HashTreeSignerModel" "turn" "[B") ∈ vGW := vGW_at 1213 (by decide +kernel) (by decide +kernel)
theorem fX12_114_X12 : vFld RX12 114 9 39 := ⟨RX12, TX12, 49, "HashTreeSignerModel", "", rfl, by decide, ivw_X12, Or.inl vw_1213, Or.inl rfl⟩
theorem fX12_114_X12f : vFldF RX12 114 9 39 (.array .byte) := ⟨RX12, TX12, 49, "HashTreeSignerModel", "", tyX12, rfl, by decide, ivw_X12, Or.inl vw_1213, Or.inl rfl, tyX12_ok, nmX12, rfl, rfl, by decide +kernel⟩
theorem vw_1214 : (Jvm.Cond.fieldLink "HashTreeSignerModel" (117 : Nat) "HashTreeSignerModel" "rootNow" "[B") ∈ vGW := vGW_at 1214 (by decide +kernel) (by decide +kernel)
theorem fX12_117_X12 : vFld RX12 117 9 40 := ⟨RX12, TX12, 49, "HashTreeSignerModel", "", rfl, by decide, ivw_X12, Or.inl vw_1214, Or.inl rfl⟩
theorem fX12_117_X12f : vFldF RX12 117 9 40 (.array .byte) := ⟨RX12, TX12, 49, "HashTreeSignerModel", "", tyX12, rfl, by decide, ivw_X12, Or.inl vw_1214, Or.inl rfl, tyX12_ok, nmX12, rfl, rfl, by decide +kernel⟩
theorem vw_1215 : (Jvm.Cond.fieldLink "HashTreeSignerModel" (243 : Nat) "HashTreeSignerModel" "n" "I") ∈ vGW := vGW_at 1215 (by decide +kernel) (by decide +kernel)
theorem fX12_243_X12 : vFld RX12 243 9 41 := ⟨RX12, TX12, 49, "HashTreeSignerModel", "", rfl, by decide, ivw_X12, Or.inl vw_1215, Or.inl rfl⟩
theorem fX12_243_X12p : vFldP RX12 243 9 41 .int := ⟨RX12, TX12, 49, "HashTreeSignerModel", "", tyX12, rfl, by decide, ivw_X12, Or.inl vw_1215, Or.inl rfl, tyX12_ok, nmX12, rfl, by decide +kernel⟩
theorem vw_1216 : (Jvm.Cond.fieldLink "HashTreeSignerModel" (246 : Nat) "HashTreeSignerModel" "h" "I") ∈ vGW := vGW_at 1216 (by decide +kernel) (by decide +kernel)
theorem fX12_246_X12 : vFld RX12 246 9 42 := ⟨RX12, TX12, 49, "HashTreeSignerModel", "", rfl, by decide, ivw_X12, Or.inl vw_1216, Or.inl rfl⟩
theorem fX12_246_X12p : vFldP RX12 246 9 42 .int := ⟨RX12, TX12, 49, "HashTreeSignerModel", "", tyX12, rfl, by decide, ivw_X12, Or.inl vw_1216, Or.inl rfl, tyX12_ok, nmX12, rfl, by decide +kernel⟩
theorem vw_1217 : (Jvm.Cond.fieldLink "HashTreeSignerModel" (249 : Nat) "HashTreeSignerModel" "layers" "I") ∈ vGW := vGW_at 1217 (by decide +kernel) (by decide +kernel)
theorem fX12_249_X12 : vFld RX12 249 9 43 := ⟨RX12, TX12, 49, "HashTreeSignerModel", "", rfl, by decide, ivw_X12, Or.inl vw_1217, Or.inl rfl⟩
theorem fX12_249_X12p : vFldP RX12 249 9 43 .int := ⟨RX12, TX12, 49, "HashTreeSignerModel", "", tyX12, rfl, by decide, ivw_X12, Or.inl vw_1217, Or.inl rfl, tyX12_ok, nmX12, rfl, by decide +kernel⟩
theorem vw_1218 : (Jvm.Cond.fieldLink "HashTreeSignerModel" (258 : Nat) "HashTreeSignerModel" "height" "I") ∈ vGW := vGW_at 1218 (by decide +kernel) (by decide +kernel)
theorem fX12_258_X12 : vFld RX12 258 9 44 := ⟨RX12, TX12, 49, "HashTreeSignerModel", "", rfl, by decide, ivw_X12, Or.inl vw_1218, Or.inl rfl⟩
theorem fX12_258_X12p : vFldP RX12 258 9 44 .int := ⟨RX12, TX12, 49, "HashTreeSignerModel", "", tyX12, rfl, by decide, ivw_X12, Or.inl vw_1218, Or.inl rfl, tyX12_ok, nmX12, rfl, by decide +kernel⟩
theorem vw_1219 : (Jvm.Cond.fieldLink "HashTreeSignerModel" (252 : Nat) "HashTreeSignerModel" "a" "I") ∈ vGW := vGW_at 1219 (by decide +kernel) (by decide +kernel)
theorem fX12_252_X12 : vFld RX12 252 9 45 := ⟨RX12, TX12, 49, "HashTreeSignerModel", "", rfl, by decide, ivw_X12, Or.inl vw_1219, Or.inl rfl⟩
theorem fX12_252_X12p : vFldP RX12 252 9 45 .int := ⟨RX12, TX12, 49, "HashTreeSignerModel", "", tyX12, rfl, by decide, ivw_X12, Or.inl vw_1219, Or.inl rfl, tyX12_ok, nmX12, rfl, by decide +kernel⟩
theorem vw_1220 : (Jvm.Cond.fieldLink "HashTreeSignerModel" (255 : Nat) "HashTreeSignerModel" "trees" "I") ∈ vGW := vGW_at 1220 (by decide +kernel) (by decide +kernel)
theorem fX12_255_X12 : vFld RX12 255 9 46 := ⟨RX12, TX12, 49, "HashTreeSignerModel", "", rfl, by decide, ivw_X12, Or.inl vw_1220, Or.inl rfl⟩
theorem fX12_255_X12p : vFldP RX12 255 9 46 .int := ⟨RX12, TX12, 49, "HashTreeSignerModel", "", tyX12, rfl, by decide, ivw_X12, Or.inl vw_1220, Or.inl rfl, tyX12_ok, nmX12, rfl, by decide +kernel⟩
theorem vw_1221 : (Jvm.Cond.fieldLink "HashTreeSignerModel" (261 : Nat) "HashTreeSignerModel" "chains" "I") ∈ vGW := vGW_at 1221 (by decide +kernel) (by decide +kernel)
theorem fX12_261_X12 : vFld RX12 261 9 47 := ⟨RX12, TX12, 49, "HashTreeSignerModel", "", rfl, by decide, ivw_X12, Or.inl vw_1221, Or.inl rfl⟩
theorem fX12_261_X12p : vFldP RX12 261 9 47 .int := ⟨RX12, TX12, 49, "HashTreeSignerModel", "", tyX12, rfl, by decide, ivw_X12, Or.inl vw_1221, Or.inl rfl, tyX12_ok, nmX12, rfl, by decide +kernel⟩
theorem vw_1222 : (Jvm.Cond.fieldLink "HashTreeSignerModel" (264 : Nat) "HashTreeSignerModel" "shake" "Z") ∈ vGW := vGW_at 1222 (by decide +kernel) (by decide +kernel)
theorem fX12_264_X12 : vFld RX12 264 9 48 := ⟨RX12, TX12, 49, "HashTreeSignerModel", "", rfl, by decide, ivw_X12, Or.inl vw_1222, Or.inl rfl⟩
theorem fX12_264_X12p : vFldP RX12 264 9 48 .boolean := ⟨RX12, TX12, 49, "HashTreeSignerModel", "", tyX12, rfl, by decide, ivw_X12, Or.inl vw_1222, Or.inl rfl, tyX12_ok, nmX12, rfl, by decide +kernel⟩
theorem vw_51 : (Jvm.Cond.methodLink "HashTreeSigner" (38 : Nat) ({ cls := "HashTreeSigner$ShakeFamily", name := "<init>", desc := "()V" } : Jvm.MethodName)) ∈ vGW := vGW_at 51 (by decide +kernel) (by decide +kernel)
theorem vw_52 : (Jvm.Cond.instanceMethod ({ cls := "HashTreeSigner$ShakeFamily", name := "<init>", desc := "()V" } : Jvm.MethodName)) ∈ vGW := vGW_at 52 (by decide +kernel) (by decide +kernel)
theorem vw_4 : (Jvm.Cond.initialized "HashTreeSigner$ShakeFamily") ∈ vGW := vGW_at 4 (by decide +kernel) (by decide +kernel)
set_option maxRecDepth 100000 in
theorem vw_53 : (Jvm.Cond.code ({ cls := "HashTreeSigner$ShakeFamily", name := "<init>", desc := "()V" } : Jvm.MethodName) prog_9_method_1_code (1 : Nat) (Option.none : Option Jvm.ClassFile.FieldType)) ∈ vGW := vGW_at 53 rfl rfl
theorem mX11_38 : vLI RX11 38 yX7_init cX7_init 1 0 := ⟨Or.inl vw_51, vw_52, vw_4, vw_53, rfl, ⟨by decide +kernel, by decide +kernel⟩, by decide +kernel⟩
theorem vw_130 : (Jvm.Cond.methodLink "HashTreeSigner" (39 : Nat) ({ cls := "HashTreeSigner$Trees", name := "<init>", desc := "(LHashTreeSigner$Family;)V" } : Jvm.MethodName)) ∈ vGW := vGW_at 130 (by decide +kernel) (by decide +kernel)
theorem vw_131 : (Jvm.Cond.instanceMethod ({ cls := "HashTreeSigner$Trees", name := "<init>", desc := "(LHashTreeSigner$Family;)V" } : Jvm.MethodName)) ∈ vGW := vGW_at 131 (by decide +kernel) (by decide +kernel)
theorem vw_2 : (Jvm.Cond.initialized "HashTreeSigner$Trees") ∈ vGW := vGW_at 2 (by decide +kernel) (by decide +kernel)
set_option maxRecDepth 100000 in
theorem vw_132 : (Jvm.Cond.code ({ cls := "HashTreeSigner$Trees", name := "<init>", desc := "(LHashTreeSigner$Family;)V" } : Jvm.MethodName) prog_12_method_1_code (2 : Nat) (Option.none : Option Jvm.ClassFile.FieldType)) ∈ vGW := vGW_at 132 rfl rfl
theorem mX11_39 : vLI RX11 39 yX10_init cX10_init 2 1 := ⟨Or.inl vw_130, vw_131, vw_2, vw_132, rfl, ⟨by decide +kernel, by decide +kernel⟩, by decide +kernel⟩
theorem vw_211 : (Jvm.Cond.methodLink "HashTreeSigner" (48 : Nat) ({ cls := "HashTreeSigner$Sha2Family", name := "<init>", desc := "()V" } : Jvm.MethodName)) ∈ vGW := vGW_at 211 (by decide +kernel) (by decide +kernel)
theorem vw_212 : (Jvm.Cond.instanceMethod ({ cls := "HashTreeSigner$Sha2Family", name := "<init>", desc := "()V" } : Jvm.MethodName)) ∈ vGW := vGW_at 212 (by decide +kernel) (by decide +kernel)
theorem vw_11 : (Jvm.Cond.initialized "HashTreeSigner$Sha2Family") ∈ vGW := vGW_at 11 (by decide +kernel) (by decide +kernel)
set_option maxRecDepth 100000 in
theorem vw_213 : (Jvm.Cond.code ({ cls := "HashTreeSigner$Sha2Family", name := "<init>", desc := "()V" } : Jvm.MethodName) prog_7_method_1_code (1 : Nat) (Option.none : Option Jvm.ClassFile.FieldType)) ∈ vGW := vGW_at 213 rfl rfl
theorem mX11_48 : vLI RX11 48 yX5_init cX5_init 1 0 := ⟨Or.inl vw_211, vw_212, vw_11, vw_213, rfl, ⟨by decide +kernel, by decide +kernel⟩, by decide +kernel⟩
theorem vw_399 : (Jvm.Cond.methodLink "HashTreeSigner" (60 : Nat) ({ cls := "HashTreeSigner", name := "putOnTape", desc := "(I)V" } : Jvm.MethodName)) ∈ vGW := vGW_at 399 (by decide +kernel) (by decide +kernel)
theorem vw_401 : (Jvm.Cond.instanceMethod ({ cls := "HashTreeSigner", name := "putOnTape", desc := "(I)V" } : Jvm.MethodName)) ∈ vGW := vGW_at 401 (by decide +kernel) (by decide +kernel)
theorem vs_1 : (Jvm.Cond.selects "HashTreeSigner" ({ cls := "HashTreeSigner", name := "putOnTape", desc := "(I)V" } : Jvm.MethodName) ({ cls := "HashTreeSigner", name := "putOnTape", desc := "(I)V" } : Jvm.MethodName)) ∈ vGW := vGW_sel 1 (by decide +kernel) (by decide +kernel)
theorem vw_1 : (Jvm.Cond.initialized "HashTreeSigner") ∈ vGW := vGW_at 1 (by decide +kernel) (by decide +kernel)
set_option maxRecDepth 100000 in
theorem vw_402 : (Jvm.Cond.code ({ cls := "HashTreeSigner", name := "putOnTape", desc := "(I)V" } : Jvm.MethodName) prog_1_method_23_code (3 : Nat) (Option.none : Option Jvm.ClassFile.FieldType)) ∈ vGW := vGW_at 402 rfl rfl
theorem mX11_60 : vLV RX11 60 yX11_putOnTape cX11_putOnTape 3 none 1 8 := ⟨⟨_, rfl, rfl⟩, Or.inl vw_399, vw_401, vs_1, vw_1, vw_402, ⟨by decide +kernel, by decide +kernel⟩, by decide +kernel⟩
theorem vw_411 : (Jvm.Cond.methodLink "HashTreeSigner" (64 : Nat) ({ cls := "HashTreeSigner", name := "checkSlot", desc := "(I)V" } : Jvm.MethodName)) ∈ vGW := vGW_at 411 (by decide +kernel) (by decide +kernel)
theorem vw_412 : (Jvm.Cond.static ({ cls := "HashTreeSigner", name := "checkSlot", desc := "(I)V" } : Jvm.MethodName)) ∈ vGW := vGW_at 412 (by decide +kernel) (by decide +kernel)
set_option maxRecDepth 100000 in
theorem vw_413 : (Jvm.Cond.code ({ cls := "HashTreeSigner", name := "checkSlot", desc := "(I)V" } : Jvm.MethodName) prog_1_method_14_code (1 : Nat) (Option.none : Option Jvm.ClassFile.FieldType)) ∈ vGW := vGW_at 413 rfl rfl
theorem mX11_64 : vLS RX11 64 yX11_checkSlot cX11_checkSlot 1 none 1 := ⟨Or.inl vw_411, vw_412, vw_1, vw_413, ⟨by decide +kernel, by decide +kernel⟩, by decide +kernel⟩
theorem vw_430 : (Jvm.Cond.methodLink "HashTreeSigner" (67 : Nat) ({ cls := "HashTreeSigner", name := "checkCount", desc := "(I)V" } : Jvm.MethodName)) ∈ vGW := vGW_at 430 (by decide +kernel) (by decide +kernel)
theorem vw_431 : (Jvm.Cond.static ({ cls := "HashTreeSigner", name := "checkCount", desc := "(I)V" } : Jvm.MethodName)) ∈ vGW := vGW_at 431 (by decide +kernel) (by decide +kernel)
set_option maxRecDepth 100000 in
theorem vw_432 : (Jvm.Cond.code ({ cls := "HashTreeSigner", name := "checkCount", desc := "(I)V" } : Jvm.MethodName) prog_1_method_15_code (1 : Nat) (Option.none : Option Jvm.ClassFile.FieldType)) ∈ vGW := vGW_at 432 rfl rfl
theorem mX11_67 : vLS RX11 67 yX11_checkCount cX11_checkCount 1 none 1 := ⟨Or.inl vw_430, vw_431, vw_1, vw_432, ⟨by decide +kernel, by decide +kernel⟩, by decide +kernel⟩
theorem vw_435 : (Jvm.Cond.methodLink "HashTreeSigner" (72 : Nat) ({ cls := "HashTreeSigner", name := "setSlot", desc := "(I[BI)V" } : Jvm.MethodName)) ∈ vGW := vGW_at 435 (by decide +kernel) (by decide +kernel)
theorem vw_437 : (Jvm.Cond.instanceMethod ({ cls := "HashTreeSigner", name := "setSlot", desc := "(I[BI)V" } : Jvm.MethodName)) ∈ vGW := vGW_at 437 (by decide +kernel) (by decide +kernel)
theorem vs_2 : (Jvm.Cond.selects "HashTreeSigner" ({ cls := "HashTreeSigner", name := "setSlot", desc := "(I[BI)V" } : Jvm.MethodName) ({ cls := "HashTreeSigner", name := "setSlot", desc := "(I[BI)V" } : Jvm.MethodName)) ∈ vGW := vGW_sel 2 (by decide +kernel) (by decide +kernel)
set_option maxRecDepth 100000 in
theorem vw_438 : (Jvm.Cond.code ({ cls := "HashTreeSigner", name := "setSlot", desc := "(I[BI)V" } : Jvm.MethodName) prog_1_method_24_code (4 : Nat) (Option.none : Option Jvm.ClassFile.FieldType)) ∈ vGW := vGW_at 438 rfl rfl
theorem mX11_72 : vLV RX11 72 yX11_setSlot cX11_setSlot 4 none 3 8 := ⟨⟨_, rfl, rfl⟩, Or.inl vw_435, vw_437, vs_2, vw_1, vw_438, ⟨by decide +kernel, by decide +kernel⟩, by decide +kernel⟩
theorem vw_456 : (Jvm.Cond.methodLink "HashTreeSigner" (76 : Nat) ({ cls := "java/util/Arrays", name := "fill", desc := "([BIIB)V" } : Jvm.MethodName)) ∈ vGW := vGW_at 456 (by decide +kernel) (by decide +kernel)
theorem vw_457 : (Jvm.Cond.static ({ cls := "java/util/Arrays", name := "fill", desc := "([BIIB)V" } : Jvm.MethodName)) ∈ vGW := vGW_at 457 (by decide +kernel) (by decide +kernel)
theorem vw_10 : (Jvm.Cond.initialized "java/util/Arrays") ∈ vGW := vGW_at 10 (by decide +kernel) (by decide +kernel)
set_option maxRecDepth 100000 in
theorem vw_458 : (Jvm.Cond.code ({ cls := "java/util/Arrays", name := "fill", desc := "([BIIB)V" } : Jvm.MethodName) prog_34_method_110_code (5 : Nat) (Option.none : Option Jvm.ClassFile.FieldType)) ∈ vGW := vGW_at 458 rfl rfl
theorem mX11_76 : vLS RX11 76 yJ7_fill_eb02e cJ7_fill_eb02e 5 none 4 := ⟨Or.inl vw_456, vw_457, vw_10, vw_458, ⟨by decide +kernel, by decide +kernel⟩, by decide +kernel⟩
theorem vw_729 : (Jvm.Cond.methodLink "HashTreeSigner" (87 : Nat) ({ cls := "HashTreeSigner", name := "checkPlace", desc := "(II)V" } : Jvm.MethodName)) ∈ vGW := vGW_at 729 (by decide +kernel) (by decide +kernel)
theorem vw_731 : (Jvm.Cond.instanceMethod ({ cls := "HashTreeSigner", name := "checkPlace", desc := "(II)V" } : Jvm.MethodName)) ∈ vGW := vGW_at 731 (by decide +kernel) (by decide +kernel)
theorem vs_3 : (Jvm.Cond.selects "HashTreeSigner" ({ cls := "HashTreeSigner", name := "checkPlace", desc := "(II)V" } : Jvm.MethodName) ({ cls := "HashTreeSigner", name := "checkPlace", desc := "(II)V" } : Jvm.MethodName)) ∈ vGW := vGW_sel 3 (by decide +kernel) (by decide +kernel)
set_option maxRecDepth 100000 in
theorem vw_732 : (Jvm.Cond.code ({ cls := "HashTreeSigner", name := "checkPlace", desc := "(II)V" } : Jvm.MethodName) prog_1_method_18_code (3 : Nat) (Option.none : Option Jvm.ClassFile.FieldType)) ∈ vGW := vGW_at 732 rfl rfl
theorem mX11_87 : vLV RX11 87 yX11_checkPlace cX11_checkPlace 3 none 2 8 := ⟨⟨_, rfl, rfl⟩, Or.inl vw_729, vw_731, vs_3, vw_1, vw_732, ⟨by decide +kernel, by decide +kernel⟩, by decide +kernel⟩
theorem vw_755 : (Jvm.Cond.methodLink "HashTreeSigner" (91 : Nat) ({ cls := "HashTreeSigner", name := "alike", desc := "([B[BII)Z" } : Jvm.MethodName)) ∈ vGW := vGW_at 755 (by decide +kernel) (by decide +kernel)
theorem vw_756 : (Jvm.Cond.static ({ cls := "HashTreeSigner", name := "alike", desc := "([B[BII)Z" } : Jvm.MethodName)) ∈ vGW := vGW_at 756 (by decide +kernel) (by decide +kernel)
set_option maxRecDepth 100000 in
theorem vw_757 : (Jvm.Cond.code ({ cls := "HashTreeSigner", name := "alike", desc := "([B[BII)Z" } : Jvm.MethodName) prog_1_method_26_code (5 : Nat) (Option.some Jvm.ClassFile.FieldType.boolean)) ∈ vGW := vGW_at 757 rfl rfl
theorem mX11_91 : vLS RX11 91 yX11_alike cX11_alike 5 (some .boolean) 4 := ⟨Or.inl vw_755, vw_756, vw_1, vw_757, ⟨by decide +kernel, by decide +kernel⟩, by decide +kernel⟩
theorem vw_766 : (Jvm.Cond.methodLink "HashTreeSigner" (95 : Nat) ({ cls := "HashTreeSigner", name := "checkSet", desc := "(I)V" } : Jvm.MethodName)) ∈ vGW := vGW_at 766 (by decide +kernel) (by decide +kernel)
theorem vw_767 : (Jvm.Cond.static ({ cls := "HashTreeSigner", name := "checkSet", desc := "(I)V" } : Jvm.MethodName)) ∈ vGW := vGW_at 767 (by decide +kernel) (by decide +kernel)
set_option maxRecDepth 100000 in
theorem vw_768 : (Jvm.Cond.code ({ cls := "HashTreeSigner", name := "checkSet", desc := "(I)V" } : Jvm.MethodName) prog_1_method_16_code (1 : Nat) (Option.none : Option Jvm.ClassFile.FieldType)) ∈ vGW := vGW_at 768 rfl rfl
theorem mX11_95 : vLS RX11 95 yX11_checkSet cX11_checkSet 1 none 1 := ⟨Or.inl vw_766, vw_767, vw_1, vw_768, ⟨by decide +kernel, by decide +kernel⟩, by decide +kernel⟩
theorem vw_770 : (Jvm.Cond.methodLink "HashTreeSigner" (98 : Nat) ({ cls := "HashTreeSigner", name := "sizesOf", desc := "(I)LHashTreeSigner$Sizes;" } : Jvm.MethodName)) ∈ vGW := vGW_at 770 (by decide +kernel) (by decide +kernel)
theorem vw_771 : (Jvm.Cond.static ({ cls := "HashTreeSigner", name := "sizesOf", desc := "(I)LHashTreeSigner$Sizes;" } : Jvm.MethodName)) ∈ vGW := vGW_at 771 (by decide +kernel) (by decide +kernel)
set_option maxRecDepth 100000 in
theorem vw_772 : (Jvm.Cond.code ({ cls := "HashTreeSigner", name := "sizesOf", desc := "(I)LHashTreeSigner$Sizes;" } : Jvm.MethodName) prog_1_method_21_code (1 : Nat) (Option.some (Jvm.ClassFile.FieldType.object "HashTreeSigner$Sizes"))) ∈ vGW := vGW_at 772 rfl rfl
theorem mX11_98 : vLS RX11 98 yX11_sizesOf cX11_sizesOf 1 (some (.object "HashTreeSigner$Sizes")) 1 := ⟨Or.inl vw_770, vw_771, vw_1, vw_772, ⟨by decide +kernel, by decide +kernel⟩, by decide +kernel⟩
theorem vw_791 : (Jvm.Cond.methodLink "HashTreeSigner" (112 : Nat) ({ cls := "HashTreeSigner", name := "treesOf", desc := "(I)LHashTreeSigner$Trees;" } : Jvm.MethodName)) ∈ vGW := vGW_at 791 (by decide +kernel) (by decide +kernel)
theorem vw_793 : (Jvm.Cond.instanceMethod ({ cls := "HashTreeSigner", name := "treesOf", desc := "(I)LHashTreeSigner$Trees;" } : Jvm.MethodName)) ∈ vGW := vGW_at 793 (by decide +kernel) (by decide +kernel)
theorem vs_4 : (Jvm.Cond.selects "HashTreeSigner" ({ cls := "HashTreeSigner", name := "treesOf", desc := "(I)LHashTreeSigner$Trees;" } : Jvm.MethodName) ({ cls := "HashTreeSigner", name := "treesOf", desc := "(I)LHashTreeSigner$Trees;" } : Jvm.MethodName)) ∈ vGW := vGW_sel 4 (by decide +kernel) (by decide +kernel)
set_option maxRecDepth 100000 in
theorem vw_794 : (Jvm.Cond.code ({ cls := "HashTreeSigner", name := "treesOf", desc := "(I)LHashTreeSigner$Trees;" } : Jvm.MethodName) prog_1_method_22_code (2 : Nat) (Option.some (Jvm.ClassFile.FieldType.object "HashTreeSigner$Trees"))) ∈ vGW := vGW_at 794 rfl rfl
theorem mX11_112 : vLV RX11 112 yX11_treesOf cX11_treesOf 2 (some (.object "HashTreeSigner$Trees")) 1 8 := ⟨⟨_, rfl, rfl⟩, Or.inl vw_791, vw_793, vs_4, vw_1, vw_794, ⟨by decide +kernel, by decide +kernel⟩, by decide +kernel⟩
theorem vw_795 : (Jvm.Cond.methodLink "HashTreeSigner" (116 : Nat) ({ cls := "HashTreeSigner$Trees", name := "open", desc := "(LHashTreeSigner$Sizes;[BII)V" } : Jvm.MethodName)) ∈ vGW := vGW_at 795 (by decide +kernel) (by decide +kernel)
theorem vw_796 : (Jvm.Cond.instanceMethod ({ cls := "HashTreeSigner$Trees", name := "open", desc := "(LHashTreeSigner$Sizes;[BII)V" } : Jvm.MethodName)) ∈ vGW := vGW_at 796 (by decide +kernel) (by decide +kernel)
theorem vw_797 : (Jvm.Cond.selects "HashTreeSigner$Trees" ({ cls := "HashTreeSigner$Trees", name := "open", desc := "(LHashTreeSigner$Sizes;[BII)V" } : Jvm.MethodName) ({ cls := "HashTreeSigner$Trees", name := "open", desc := "(LHashTreeSigner$Sizes;[BII)V" } : Jvm.MethodName)) ∈ vGW := vGW_at 797 (by decide +kernel) (by decide +kernel)
set_option maxRecDepth 100000 in
theorem vw_798 : (Jvm.Cond.code ({ cls := "HashTreeSigner$Trees", name := "open", desc := "(LHashTreeSigner$Sizes;[BII)V" } : Jvm.MethodName) prog_12_method_2_code (5 : Nat) (Option.none : Option Jvm.ClassFile.FieldType)) ∈ vGW := vGW_at 798 rfl rfl
theorem mX11_116 : vLV RX11 116 yX10_open cX10_open 5 none 4 7 := ⟨⟨_, rfl, rfl⟩, Or.inl vw_795, vw_796, vw_797, vw_2, vw_798, ⟨by decide +kernel, by decide +kernel⟩, by decide +kernel⟩
theorem vw_862 : (Jvm.Cond.methodLink "HashTreeSigner" (123 : Nat) ({ cls := "HashTreeSigner$Trees", name := "enterLayer", desc := "(IJ)V" } : Jvm.MethodName)) ∈ vGW := vGW_at 862 (by decide +kernel) (by decide +kernel)
theorem vw_863 : (Jvm.Cond.instanceMethod ({ cls := "HashTreeSigner$Trees", name := "enterLayer", desc := "(IJ)V" } : Jvm.MethodName)) ∈ vGW := vGW_at 863 (by decide +kernel) (by decide +kernel)
theorem vw_864 : (Jvm.Cond.selects "HashTreeSigner$Trees" ({ cls := "HashTreeSigner$Trees", name := "enterLayer", desc := "(IJ)V" } : Jvm.MethodName) ({ cls := "HashTreeSigner$Trees", name := "enterLayer", desc := "(IJ)V" } : Jvm.MethodName)) ∈ vGW := vGW_at 864 (by decide +kernel) (by decide +kernel)
set_option maxRecDepth 100000 in
theorem vw_865 : (Jvm.Cond.code ({ cls := "HashTreeSigner$Trees", name := "enterLayer", desc := "(IJ)V" } : Jvm.MethodName) prog_12_method_5_code (4 : Nat) (Option.none : Option Jvm.ClassFile.FieldType)) ∈ vGW := vGW_at 865 rfl rfl
theorem mX11_123 : vLV RX11 123 yX10_enterLayer cX10_enterLayer 4 none 2 7 := ⟨⟨_, rfl, rfl⟩, Or.inl vw_862, vw_863, vw_864, vw_2, vw_865, ⟨by decide +kernel, by decide +kernel⟩, by decide +kernel⟩
theorem vw_870 : (Jvm.Cond.methodLink "HashTreeSigner" (130 : Nat) ({ cls := "HashTreeSigner$Trees", name := "node", desc := "(II[BI)V" } : Jvm.MethodName)) ∈ vGW := vGW_at 870 (by decide +kernel) (by decide +kernel)
theorem vw_871 : (Jvm.Cond.instanceMethod ({ cls := "HashTreeSigner$Trees", name := "node", desc := "(II[BI)V" } : Jvm.MethodName)) ∈ vGW := vGW_at 871 (by decide +kernel) (by decide +kernel)
theorem vw_872 : (Jvm.Cond.selects "HashTreeSigner$Trees" ({ cls := "HashTreeSigner$Trees", name := "node", desc := "(II[BI)V" } : Jvm.MethodName) ({ cls := "HashTreeSigner$Trees", name := "node", desc := "(II[BI)V" } : Jvm.MethodName)) ∈ vGW := vGW_at 872 (by decide +kernel) (by decide +kernel)
set_option maxRecDepth 100000 in
theorem vw_873 : (Jvm.Cond.code ({ cls := "HashTreeSigner$Trees", name := "node", desc := "(II[BI)V" } : Jvm.MethodName) prog_12_method_10_code (8 : Nat) (Option.none : Option Jvm.ClassFile.FieldType)) ∈ vGW := vGW_at 873 rfl rfl
theorem mX11_130 : vLV RX11 130 yX10_node cX10_node 8 none 4 7 := ⟨⟨_, rfl, rfl⟩, Or.inl vw_870, vw_871, vw_872, vw_2, vw_873, ⟨by decide +kernel, by decide +kernel⟩, by decide +kernel⟩
theorem vw_964 : (Jvm.Cond.methodLink "HashTreeSigner" (140 : Nat) ({ cls := "HashTreeSigner", name := "checkHow", desc := "(I)V" } : Jvm.MethodName)) ∈ vGW := vGW_at 964 (by decide +kernel) (by decide +kernel)
theorem vw_965 : (Jvm.Cond.static ({ cls := "HashTreeSigner", name := "checkHow", desc := "(I)V" } : Jvm.MethodName)) ∈ vGW := vGW_at 965 (by decide +kernel) (by decide +kernel)
set_option maxRecDepth 100000 in
theorem vw_966 : (Jvm.Cond.code ({ cls := "HashTreeSigner", name := "checkHow", desc := "(I)V" } : Jvm.MethodName) prog_1_method_17_code (1 : Nat) (Option.none : Option Jvm.ClassFile.FieldType)) ∈ vGW := vGW_at 966 rfl rfl
theorem mX11_140 : vLS RX11 140 yX11_checkHow cX11_checkHow 1 none 1 := ⟨Or.inl vw_964, vw_965, vw_1, vw_966, ⟨by decide +kernel, by decide +kernel⟩, by decide +kernel⟩
theorem vw_968 : (Jvm.Cond.methodLink "HashTreeSigner" (143 : Nat) ({ cls := "HashTreeSigner", name := "checkContext", desc := "(I)V" } : Jvm.MethodName)) ∈ vGW := vGW_at 968 (by decide +kernel) (by decide +kernel)
theorem vw_970 : (Jvm.Cond.instanceMethod ({ cls := "HashTreeSigner", name := "checkContext", desc := "(I)V" } : Jvm.MethodName)) ∈ vGW := vGW_at 970 (by decide +kernel) (by decide +kernel)
theorem vs_8 : (Jvm.Cond.selects "HashTreeSigner" ({ cls := "HashTreeSigner", name := "checkContext", desc := "(I)V" } : Jvm.MethodName) ({ cls := "HashTreeSigner", name := "checkContext", desc := "(I)V" } : Jvm.MethodName)) ∈ vGW := vGW_sel 8 (by decide +kernel) (by decide +kernel)
set_option maxRecDepth 100000 in
theorem vw_971 : (Jvm.Cond.code ({ cls := "HashTreeSigner", name := "checkContext", desc := "(I)V" } : Jvm.MethodName) prog_1_method_19_code (2 : Nat) (Option.none : Option Jvm.ClassFile.FieldType)) ∈ vGW := vGW_at 971 rfl rfl
theorem mX11_143 : vLV RX11 143 yX11_checkContext cX11_checkContext 2 none 1 8 := ⟨⟨_, rfl, rfl⟩, Or.inl vw_968, vw_970, vs_8, vw_1, vw_971, ⟨by decide +kernel, by decide +kernel⟩, by decide +kernel⟩
theorem vw_974 : (Jvm.Cond.methodLink "HashTreeSigner" (148 : Nat) ({ cls := "HashTreeSigner", name := "checkSecret", desc := "(LHashTreeSigner$Sizes;)V" } : Jvm.MethodName)) ∈ vGW := vGW_at 974 (by decide +kernel) (by decide +kernel)
theorem vw_976 : (Jvm.Cond.instanceMethod ({ cls := "HashTreeSigner", name := "checkSecret", desc := "(LHashTreeSigner$Sizes;)V" } : Jvm.MethodName)) ∈ vGW := vGW_at 976 (by decide +kernel) (by decide +kernel)
theorem vs_9 : (Jvm.Cond.selects "HashTreeSigner" ({ cls := "HashTreeSigner", name := "checkSecret", desc := "(LHashTreeSigner$Sizes;)V" } : Jvm.MethodName) ({ cls := "HashTreeSigner", name := "checkSecret", desc := "(LHashTreeSigner$Sizes;)V" } : Jvm.MethodName)) ∈ vGW := vGW_sel 9 (by decide +kernel) (by decide +kernel)
set_option maxRecDepth 100000 in
theorem vw_977 : (Jvm.Cond.code ({ cls := "HashTreeSigner", name := "checkSecret", desc := "(LHashTreeSigner$Sizes;)V" } : Jvm.MethodName) prog_1_method_20_code (2 : Nat) (Option.none : Option Jvm.ClassFile.FieldType)) ∈ vGW := vGW_at 977 rfl rfl
theorem mX11_148 : vLV RX11 148 yX11_checkSecret cX11_checkSecret 2 none 1 8 := ⟨⟨_, rfl, rfl⟩, Or.inl vw_974, vw_976, vs_9, vw_1, vw_977, ⟨by decide +kernel, by decide +kernel⟩, by decide +kernel⟩
theorem vw_994 : (Jvm.Cond.methodLink "HashTreeSigner" (152 : Nat) ({ cls := "HashTreeSigner", name := "laySigned", desc := "(I)V" } : Jvm.MethodName)) ∈ vGW := vGW_at 994 (by decide +kernel) (by decide +kernel)
theorem vw_996 : (Jvm.Cond.instanceMethod ({ cls := "HashTreeSigner", name := "laySigned", desc := "(I)V" } : Jvm.MethodName)) ∈ vGW := vGW_at 996 (by decide +kernel) (by decide +kernel)
theorem vs_10 : (Jvm.Cond.selects "HashTreeSigner" ({ cls := "HashTreeSigner", name := "laySigned", desc := "(I)V" } : Jvm.MethodName) ({ cls := "HashTreeSigner", name := "laySigned", desc := "(I)V" } : Jvm.MethodName)) ∈ vGW := vGW_sel 10 (by decide +kernel) (by decide +kernel)
set_option maxRecDepth 100000 in
theorem vw_997 : (Jvm.Cond.code ({ cls := "HashTreeSigner", name := "laySigned", desc := "(I)V" } : Jvm.MethodName) prog_1_method_25_code (3 : Nat) (Option.none : Option Jvm.ClassFile.FieldType)) ∈ vGW := vGW_at 997 rfl rfl
theorem mX11_152 : vLV RX11 152 yX11_laySigned cX11_laySigned 3 none 1 8 := ⟨⟨_, rfl, rfl⟩, Or.inl vw_994, vw_996, vs_10, vw_1, vw_997, ⟨by decide +kernel, by decide +kernel⟩, by decide +kernel⟩
theorem vw_998 : (Jvm.Cond.methodLink "HashTreeSigner" (155 : Nat) ({ cls := "HashTreeSigner$Trees", name := "randomize", desc := "([BI[BI[B)V" } : Jvm.MethodName)) ∈ vGW := vGW_at 998 (by decide +kernel) (by decide +kernel)
theorem vw_999 : (Jvm.Cond.instanceMethod ({ cls := "HashTreeSigner$Trees", name := "randomize", desc := "([BI[BI[B)V" } : Jvm.MethodName)) ∈ vGW := vGW_at 999 (by decide +kernel) (by decide +kernel)
theorem vw_1000 : (Jvm.Cond.selects "HashTreeSigner$Trees" ({ cls := "HashTreeSigner$Trees", name := "randomize", desc := "([BI[BI[B)V" } : Jvm.MethodName) ({ cls := "HashTreeSigner$Trees", name := "randomize", desc := "([BI[BI[B)V" } : Jvm.MethodName)) ∈ vGW := vGW_at 1000 (by decide +kernel) (by decide +kernel)
set_option maxRecDepth 100000 in
theorem vw_1001 : (Jvm.Cond.code ({ cls := "HashTreeSigner$Trees", name := "randomize", desc := "([BI[BI[B)V" } : Jvm.MethodName) prog_12_method_3_code (6 : Nat) (Option.none : Option Jvm.ClassFile.FieldType)) ∈ vGW := vGW_at 1001 rfl rfl
theorem mX11_155 : vLV RX11 155 yX10_randomize cX10_randomize 6 none 5 7 := ⟨⟨_, rfl, rfl⟩, Or.inl vw_998, vw_999, vw_1000, vw_2, vw_1001, ⟨by decide +kernel, by decide +kernel⟩, by decide +kernel⟩
theorem vw_1019 : (Jvm.Cond.methodLink "HashTreeSigner" (159 : Nat) ({ cls := "HashTreeSigner$Trees", name := "choose", desc := "([B[BI)V" } : Jvm.MethodName)) ∈ vGW := vGW_at 1019 (by decide +kernel) (by decide +kernel)
theorem vw_1020 : (Jvm.Cond.instanceMethod ({ cls := "HashTreeSigner$Trees", name := "choose", desc := "([B[BI)V" } : Jvm.MethodName)) ∈ vGW := vGW_at 1020 (by decide +kernel) (by decide +kernel)
theorem vw_1021 : (Jvm.Cond.selects "HashTreeSigner$Trees" ({ cls := "HashTreeSigner$Trees", name := "choose", desc := "([B[BI)V" } : Jvm.MethodName) ({ cls := "HashTreeSigner$Trees", name := "choose", desc := "([B[BI)V" } : Jvm.MethodName)) ∈ vGW := vGW_at 1021 (by decide +kernel) (by decide +kernel)
set_option maxRecDepth 100000 in
theorem vw_1022 : (Jvm.Cond.code ({ cls := "HashTreeSigner$Trees", name := "choose", desc := "([B[BI)V" } : Jvm.MethodName) prog_12_method_4_code (9 : Nat) (Option.none : Option Jvm.ClassFile.FieldType)) ∈ vGW := vGW_at 1022 rfl rfl
theorem mX11_159 : vLV RX11 159 yX10_choose cX10_choose 9 none 3 7 := ⟨⟨_, rfl, rfl⟩, Or.inl vw_1019, vw_1020, vw_1021, vw_2, vw_1022, ⟨by decide +kernel, by decide +kernel⟩, by decide +kernel⟩
theorem vw_1038 : (Jvm.Cond.methodLink "HashTreeSigner" (163 : Nat) ({ cls := "HashTreeSigner$Trees", name := "signForest", desc := "([BI)I" } : Jvm.MethodName)) ∈ vGW := vGW_at 1038 (by decide +kernel) (by decide +kernel)
theorem vw_1039 : (Jvm.Cond.instanceMethod ({ cls := "HashTreeSigner$Trees", name := "signForest", desc := "([BI)I" } : Jvm.MethodName)) ∈ vGW := vGW_at 1039 (by decide +kernel) (by decide +kernel)
theorem vw_1040 : (Jvm.Cond.selects "HashTreeSigner$Trees" ({ cls := "HashTreeSigner$Trees", name := "signForest", desc := "([BI)I" } : Jvm.MethodName) ({ cls := "HashTreeSigner$Trees", name := "signForest", desc := "([BI)I" } : Jvm.MethodName)) ∈ vGW := vGW_at 1040 (by decide +kernel) (by decide +kernel)
set_option maxRecDepth 100000 in
theorem vw_1041 : (Jvm.Cond.code ({ cls := "HashTreeSigner$Trees", name := "signForest", desc := "([BI)I" } : Jvm.MethodName) prog_12_method_6_code (7 : Nat) (Option.some Jvm.ClassFile.FieldType.int)) ∈ vGW := vGW_at 1041 rfl rfl
theorem mX11_163 : vLV RX11 163 yX10_signForest cX10_signForest 7 (some .int) 2 7 := ⟨⟨_, rfl, rfl⟩, Or.inl vw_1038, vw_1039, vw_1040, vw_2, vw_1041, ⟨by decide +kernel, by decide +kernel⟩, by decide +kernel⟩
theorem vw_1059 : (Jvm.Cond.methodLink "HashTreeSigner" (167 : Nat) ({ cls := "HashTreeSigner$Trees", name := "signLayer", desc := "(I[BI)I" } : Jvm.MethodName)) ∈ vGW := vGW_at 1059 (by decide +kernel) (by decide +kernel)
theorem vw_1060 : (Jvm.Cond.instanceMethod ({ cls := "HashTreeSigner$Trees", name := "signLayer", desc := "(I[BI)I" } : Jvm.MethodName)) ∈ vGW := vGW_at 1060 (by decide +kernel) (by decide +kernel)
theorem vw_1061 : (Jvm.Cond.selects "HashTreeSigner$Trees" ({ cls := "HashTreeSigner$Trees", name := "signLayer", desc := "(I[BI)I" } : Jvm.MethodName) ({ cls := "HashTreeSigner$Trees", name := "signLayer", desc := "(I[BI)I" } : Jvm.MethodName)) ∈ vGW := vGW_at 1061 (by decide +kernel) (by decide +kernel)
set_option maxRecDepth 100000 in
theorem vw_1062 : (Jvm.Cond.code ({ cls := "HashTreeSigner$Trees", name := "signLayer", desc := "(I[BI)I" } : Jvm.MethodName) prog_12_method_8_code (6 : Nat) (Option.some Jvm.ClassFile.FieldType.int)) ∈ vGW := vGW_at 1062 rfl rfl
theorem mX11_167 : vLV RX11 167 yX10_signLayer cX10_signLayer 6 (some .int) 3 7 := ⟨⟨_, rfl, rfl⟩, Or.inl vw_1059, vw_1060, vw_1061, vw_2, vw_1062, ⟨by decide +kernel, by decide +kernel⟩, by decide +kernel⟩
theorem vw_1080 : (Jvm.Cond.methodLink "HashTreeSigner" (179 : Nat) ({ cls := "HashTreeSigner$Trees", name := "forestRoot", desc := "([BI)I" } : Jvm.MethodName)) ∈ vGW := vGW_at 1080 (by decide +kernel) (by decide +kernel)
theorem vw_1052 : (Jvm.Cond.instanceMethod ({ cls := "HashTreeSigner$Trees", name := "forestRoot", desc := "([BI)I" } : Jvm.MethodName)) ∈ vGW := vGW_at 1052 (by decide +kernel) (by decide +kernel)
theorem vw_1053 : (Jvm.Cond.selects "HashTreeSigner$Trees" ({ cls := "HashTreeSigner$Trees", name := "forestRoot", desc := "([BI)I" } : Jvm.MethodName) ({ cls := "HashTreeSigner$Trees", name := "forestRoot", desc := "([BI)I" } : Jvm.MethodName)) ∈ vGW := vGW_at 1053 (by decide +kernel) (by decide +kernel)
set_option maxRecDepth 100000 in
theorem vw_1054 : (Jvm.Cond.code ({ cls := "HashTreeSigner$Trees", name := "forestRoot", desc := "([BI)I" } : Jvm.MethodName) prog_12_method_7_code (6 : Nat) (Option.some Jvm.ClassFile.FieldType.int)) ∈ vGW := vGW_at 1054 rfl rfl
theorem mX11_179 : vLV RX11 179 yX10_forestRoot cX10_forestRoot 6 (some .int) 2 7 := ⟨⟨_, rfl, rfl⟩, Or.inl vw_1080, vw_1052, vw_1053, vw_2, vw_1054, ⟨by decide +kernel, by decide +kernel⟩, by decide +kernel⟩
theorem vw_1081 : (Jvm.Cond.methodLink "HashTreeSigner" (182 : Nat) ({ cls := "HashTreeSigner$Trees", name := "layerRoot", desc := "(I[BI)I" } : Jvm.MethodName)) ∈ vGW := vGW_at 1081 (by decide +kernel) (by decide +kernel)
theorem vw_1069 : (Jvm.Cond.instanceMethod ({ cls := "HashTreeSigner$Trees", name := "layerRoot", desc := "(I[BI)I" } : Jvm.MethodName)) ∈ vGW := vGW_at 1069 (by decide +kernel) (by decide +kernel)
theorem vw_1070 : (Jvm.Cond.selects "HashTreeSigner$Trees" ({ cls := "HashTreeSigner$Trees", name := "layerRoot", desc := "(I[BI)I" } : Jvm.MethodName) ({ cls := "HashTreeSigner$Trees", name := "layerRoot", desc := "(I[BI)I" } : Jvm.MethodName)) ∈ vGW := vGW_at 1070 (by decide +kernel) (by decide +kernel)
set_option maxRecDepth 100000 in
theorem vw_1071 : (Jvm.Cond.code ({ cls := "HashTreeSigner$Trees", name := "layerRoot", desc := "(I[BI)I" } : Jvm.MethodName) prog_12_method_9_code (5 : Nat) (Option.some Jvm.ClassFile.FieldType.int)) ∈ vGW := vGW_at 1071 rfl rfl
theorem mX11_182 : vLV RX11 182 yX10_layerRoot cX10_layerRoot 5 (some .int) 3 7 := ⟨⟨_, rfl, rfl⟩, Or.inl vw_1081, vw_1069, vw_1070, vw_2, vw_1071, ⟨by decide +kernel, by decide +kernel⟩, by decide +kernel⟩
theorem vw_882 : (Jvm.Cond.methodLink "HashTreeSigner$Address" (26 : Nat) ({ cls := "HashTreeSigner$Address", name := "put", desc := "(II)V" } : Jvm.MethodName)) ∈ vGW := vGW_at 882 (by decide +kernel) (by decide +kernel)
theorem vw_884 : (Jvm.Cond.instanceMethod ({ cls := "HashTreeSigner$Address", name := "put", desc := "(II)V" } : Jvm.MethodName)) ∈ vGW := vGW_at 884 (by decide +kernel) (by decide +kernel)
theorem vs_6 : (Jvm.Cond.selects "HashTreeSigner$Address" ({ cls := "HashTreeSigner$Address", name := "put", desc := "(II)V" } : Jvm.MethodName) ({ cls := "HashTreeSigner$Address", name := "put", desc := "(II)V" } : Jvm.MethodName)) ∈ vGW := vGW_sel 6 (by decide +kernel) (by decide +kernel)
theorem vw_5 : (Jvm.Cond.initialized "HashTreeSigner$Address") ∈ vGW := vGW_at 5 (by decide +kernel) (by decide +kernel)
set_option maxRecDepth 100000 in
theorem vw_885 : (Jvm.Cond.code ({ cls := "HashTreeSigner$Address", name := "put", desc := "(II)V" } : Jvm.MethodName) prog_2_method_5_code (3 : Nat) (Option.none : Option Jvm.ClassFile.FieldType)) ∈ vGW := vGW_at 885 rfl rfl
theorem mX0_26 : vLV RX0 26 yX0_put cX0_put 3 none 2 0 := ⟨⟨_, rfl, rfl⟩, Or.inl vw_882, vw_884, vs_6, vw_5, vw_885, ⟨by decide +kernel, by decide +kernel⟩, by decide +kernel⟩
theorem vw_142 : (Jvm.Cond.methodLink "HashTreeSigner$Chains" (34 : Nat) ({ cls := "java/util/Arrays", name := "fill", desc := "([II)V" } : Jvm.MethodName)) ∈ vGW := vGW_at 142 (by decide +kernel) (by decide +kernel)
theorem vw_143 : (Jvm.Cond.static ({ cls := "java/util/Arrays", name := "fill", desc := "([II)V" } : Jvm.MethodName)) ∈ vGW := vGW_at 143 (by decide +kernel) (by decide +kernel)
set_option maxRecDepth 100000 in
theorem vw_144 : (Jvm.Cond.code ({ cls := "java/util/Arrays", name := "fill", desc := "([II)V" } : Jvm.MethodName) prog_34_method_103_code (4 : Nat) (Option.none : Option Jvm.ClassFile.FieldType)) ∈ vGW := vGW_at 144 rfl rfl
theorem mX1_34 : vLS RX1 34 yJ7_fill_53178 cJ7_fill_53178 4 none 2 := ⟨Or.inl vw_142, vw_143, vw_10, vw_144, ⟨by decide +kernel, by decide +kernel⟩, by decide +kernel⟩
theorem vw_941 : (Jvm.Cond.methodLink "HashTreeSigner$Chains" (54 : Nat) ({ cls := "HashTreeSigner$Address", name := "name", desc := "(IIII)V" } : Jvm.MethodName)) ∈ vGW := vGW_at 941 (by decide +kernel) (by decide +kernel)
theorem vw_879 : (Jvm.Cond.instanceMethod ({ cls := "HashTreeSigner$Address", name := "name", desc := "(IIII)V" } : Jvm.MethodName)) ∈ vGW := vGW_at 879 (by decide +kernel) (by decide +kernel)
theorem vw_880 : (Jvm.Cond.selects "HashTreeSigner$Address" ({ cls := "HashTreeSigner$Address", name := "name", desc := "(IIII)V" } : Jvm.MethodName) ({ cls := "HashTreeSigner$Address", name := "name", desc := "(IIII)V" } : Jvm.MethodName)) ∈ vGW := vGW_at 880 (by decide +kernel) (by decide +kernel)
set_option maxRecDepth 100000 in
theorem vw_881 : (Jvm.Cond.code ({ cls := "HashTreeSigner$Address", name := "name", desc := "(IIII)V" } : Jvm.MethodName) prog_2_method_3_code (5 : Nat) (Option.none : Option Jvm.ClassFile.FieldType)) ∈ vGW := vGW_at 881 rfl rfl
theorem mX1_54 : vLV RX1 54 yX0_name cX0_name 5 none 4 0 := ⟨⟨_, rfl, rfl⟩, Or.inl vw_941, vw_879, vw_880, vw_5, vw_881, ⟨by decide +kernel, by decide +kernel⟩, by decide +kernel⟩
theorem vw_942 : (Jvm.Cond.methodLink "HashTreeSigner$Chains" (61 : Nat) ({ cls := "HashTreeSigner$Family", name := "f", desc := "([BII[BI)V" } : Jvm.MethodName)) ∈ vGW := vGW_at 942 (by decide +kernel) (by decide +kernel)
theorem vw_888 : (Jvm.Cond.sameMethod "HashTreeSigner$Family" "HashTreeSigner$Family" "f" "([BII[BI)V") ∈ vGW := vGW_at 888 (by decide +kernel) (by decide +kernel)
theorem vw_889 : (Jvm.Cond.selects "HashTreeSigner$Sha2Family" ({ cls := "HashTreeSigner$Family", name := "f", desc := "([BII[BI)V" } : Jvm.MethodName) ({ cls := "HashTreeSigner$Sha2Family", name := "f", desc := "([BII[BI)V" } : Jvm.MethodName)) ∈ vGW := vGW_at 889 (by decide +kernel) (by decide +kernel)
theorem vw_890 : (Jvm.Cond.instanceMethod ({ cls := "HashTreeSigner$Sha2Family", name := "f", desc := "([BII[BI)V" } : Jvm.MethodName)) ∈ vGW := vGW_at 890 (by decide +kernel) (by decide +kernel)
set_option maxRecDepth 100000 in
theorem vw_891 : (Jvm.Cond.code ({ cls := "HashTreeSigner$Sha2Family", name := "f", desc := "([BII[BI)V" } : Jvm.MethodName) prog_7_method_3_code (7 : Nat) (Option.none : Option Jvm.ClassFile.FieldType)) ∈ vGW := vGW_at 891 rfl rfl
theorem mX1_61_X5 : vLU RX1 61 ({ cls := "HashTreeSigner$Family", name := "f", desc := "([BII[BI)V" } : Jvm.MethodName) yX5_f cX5_f 7 none 5 3 := ⟨_, "HashTreeSigner$Family", rfl, vw_942, vw_888, Or.inl (List.mem_of_getElem? (i := 9) rfl), vw_889, vw_890, vw_11, vw_891, ⟨by decide +kernel, by decide +kernel⟩, by decide +kernel⟩
theorem vw_906 : (Jvm.Cond.selects "HashTreeSigner$ShakeFamily" ({ cls := "HashTreeSigner$Family", name := "f", desc := "([BII[BI)V" } : Jvm.MethodName) ({ cls := "HashTreeSigner$ShakeFamily", name := "f", desc := "([BII[BI)V" } : Jvm.MethodName)) ∈ vGW := vGW_at 906 (by decide +kernel) (by decide +kernel)
theorem vw_907 : (Jvm.Cond.instanceMethod ({ cls := "HashTreeSigner$ShakeFamily", name := "f", desc := "([BII[BI)V" } : Jvm.MethodName)) ∈ vGW := vGW_at 907 (by decide +kernel) (by decide +kernel)
set_option maxRecDepth 100000 in
theorem vw_908 : (Jvm.Cond.code ({ cls := "HashTreeSigner$ShakeFamily", name := "f", desc := "([BII[BI)V" } : Jvm.MethodName) prog_9_method_3_code (6 : Nat) (Option.none : Option Jvm.ClassFile.FieldType)) ∈ vGW := vGW_at 908 rfl rfl
theorem mX1_61_X7 : vLU RX1 61 ({ cls := "HashTreeSigner$Family", name := "f", desc := "([BII[BI)V" } : Jvm.MethodName) yX7_f cX7_f 6 none 5 5 := ⟨_, "HashTreeSigner$Family", rfl, vw_942, vw_888, Or.inl (List.mem_of_getElem? (i := 9) rfl), vw_906, vw_907, vw_4, vw_908, ⟨by decide +kernel, by decide +kernel⟩, by decide +kernel⟩
theorem vw_947 : (Jvm.Cond.methodLink "HashTreeSigner$Chains" (65 : Nat) ({ cls := "HashTreeSigner$Address", name := "step", desc := "(I)V" } : Jvm.MethodName)) ∈ vGW := vGW_at 947 (by decide +kernel) (by decide +kernel)
theorem vw_948 : (Jvm.Cond.instanceMethod ({ cls := "HashTreeSigner$Address", name := "step", desc := "(I)V" } : Jvm.MethodName)) ∈ vGW := vGW_at 948 (by decide +kernel) (by decide +kernel)
theorem vw_949 : (Jvm.Cond.selects "HashTreeSigner$Address" ({ cls := "HashTreeSigner$Address", name := "step", desc := "(I)V" } : Jvm.MethodName) ({ cls := "HashTreeSigner$Address", name := "step", desc := "(I)V" } : Jvm.MethodName)) ∈ vGW := vGW_at 949 (by decide +kernel) (by decide +kernel)
set_option maxRecDepth 100000 in
theorem vw_950 : (Jvm.Cond.code ({ cls := "HashTreeSigner$Address", name := "step", desc := "(I)V" } : Jvm.MethodName) prog_2_method_4_code (2 : Nat) (Option.none : Option Jvm.ClassFile.FieldType)) ∈ vGW := vGW_at 950 rfl rfl
theorem mX1_65 : vLV RX1 65 yX0_step cX0_step 2 none 1 0 := ⟨⟨_, rfl, rfl⟩, Or.inl vw_947, vw_948, vw_949, vw_5, vw_950, ⟨by decide +kernel, by decide +kernel⟩, by decide +kernel⟩
theorem vw_810 : (Jvm.Cond.methodLink "HashTreeSigner$Family" (27 : Nat) ({ cls := "HashTreeSigner$Family", name := "useSeed", desc := "()V" } : Jvm.MethodName)) ∈ vGW := vGW_at 810 (by decide +kernel) (by decide +kernel)
theorem vw_812 : (Jvm.Cond.sameMethod "HashTreeSigner$Family" "HashTreeSigner$Family" "useSeed" "()V") ∈ vGW := vGW_at 812 (by decide +kernel) (by decide +kernel)
theorem vw_813 : (Jvm.Cond.selects "HashTreeSigner$Sha2Family" ({ cls := "HashTreeSigner$Family", name := "useSeed", desc := "()V" } : Jvm.MethodName) ({ cls := "HashTreeSigner$Sha2Family", name := "useSeed", desc := "()V" } : Jvm.MethodName)) ∈ vGW := vGW_at 813 (by decide +kernel) (by decide +kernel)
theorem vw_814 : (Jvm.Cond.instanceMethod ({ cls := "HashTreeSigner$Sha2Family", name := "useSeed", desc := "()V" } : Jvm.MethodName)) ∈ vGW := vGW_at 814 (by decide +kernel) (by decide +kernel)
set_option maxRecDepth 100000 in
theorem vw_815 : (Jvm.Cond.code ({ cls := "HashTreeSigner$Sha2Family", name := "useSeed", desc := "()V" } : Jvm.MethodName) prog_7_method_2_code (1 : Nat) (Option.none : Option Jvm.ClassFile.FieldType)) ∈ vGW := vGW_at 815 rfl rfl
theorem mX2_27_X5 : vLU RX2 27 ({ cls := "HashTreeSigner$Family", name := "useSeed", desc := "()V" } : Jvm.MethodName) yX5_useSeed cX5_useSeed 1 none 0 3 := ⟨_, "HashTreeSigner$Family", rfl, vw_810, vw_812, Or.inl (List.mem_of_getElem? (i := 7) rfl), vw_813, vw_814, vw_11, vw_815, ⟨by decide +kernel, by decide +kernel⟩, by decide +kernel⟩
theorem vw_859 : (Jvm.Cond.selects "HashTreeSigner$ShakeFamily" ({ cls := "HashTreeSigner$Family", name := "useSeed", desc := "()V" } : Jvm.MethodName) ({ cls := "HashTreeSigner$ShakeFamily", name := "useSeed", desc := "()V" } : Jvm.MethodName)) ∈ vGW := vGW_at 859 (by decide +kernel) (by decide +kernel)
theorem vw_860 : (Jvm.Cond.instanceMethod ({ cls := "HashTreeSigner$ShakeFamily", name := "useSeed", desc := "()V" } : Jvm.MethodName)) ∈ vGW := vGW_at 860 (by decide +kernel) (by decide +kernel)
set_option maxRecDepth 100000 in
theorem vw_861 : (Jvm.Cond.code ({ cls := "HashTreeSigner$ShakeFamily", name := "useSeed", desc := "()V" } : Jvm.MethodName) prog_9_method_2_code (1 : Nat) (Option.none : Option Jvm.ClassFile.FieldType)) ∈ vGW := vGW_at 861 rfl rfl
theorem mX2_27_X7 : vLU RX2 27 ({ cls := "HashTreeSigner$Family", name := "useSeed", desc := "()V" } : Jvm.MethodName) yX7_useSeed cX7_useSeed 1 none 0 5 := ⟨_, "HashTreeSigner$Family", rfl, vw_810, vw_812, Or.inl (List.mem_of_getElem? (i := 7) rfl), vw_859, vw_860, vw_4, vw_861, ⟨by decide +kernel, by decide +kernel⟩, by decide +kernel⟩
theorem vw_833 : (Jvm.Cond.methodLink "HashTreeSigner$Sha2" (43 : Nat) ({ cls := "HashTreeSigner$Sha2", name := "compress", desc := "()V" } : Jvm.MethodName)) ∈ vGW := vGW_at 833 (by decide +kernel) (by decide +kernel)
theorem vw_835 : (Jvm.Cond.sameMethod "HashTreeSigner$Sha2" "HashTreeSigner$Sha2" "compress" "()V") ∈ vGW := vGW_at 835 (by decide +kernel) (by decide +kernel)
theorem vw_836 : (Jvm.Cond.selects "HashTreeSigner$Sha256" ({ cls := "HashTreeSigner$Sha2", name := "compress", desc := "()V" } : Jvm.MethodName) ({ cls := "HashTreeSigner$Sha256", name := "compress", desc := "()V" } : Jvm.MethodName)) ∈ vGW := vGW_at 836 (by decide +kernel) (by decide +kernel)
theorem vw_837 : (Jvm.Cond.instanceMethod ({ cls := "HashTreeSigner$Sha256", name := "compress", desc := "()V" } : Jvm.MethodName)) ∈ vGW := vGW_at 837 (by decide +kernel) (by decide +kernel)
theorem vw_13 : (Jvm.Cond.initialized "HashTreeSigner$Sha256") ∈ vGW := vGW_at 13 (by decide +kernel) (by decide +kernel)
set_option maxRecDepth 100000 in
theorem vw_838 : (Jvm.Cond.code ({ cls := "HashTreeSigner$Sha256", name := "compress", desc := "()V" } : Jvm.MethodName) prog_6_method_2_code (14 : Nat) (Option.none : Option Jvm.ClassFile.FieldType)) ∈ vGW := vGW_at 838 rfl rfl
theorem mX3_43_X4 : vLU RX3 43 ({ cls := "HashTreeSigner$Sha2", name := "compress", desc := "()V" } : Jvm.MethodName) yX4_compress cX4_compress 14 none 0 2 := ⟨_, "HashTreeSigner$Sha2", rfl, vw_833, vw_835, Or.inl (List.mem_of_getElem? (i := 8) rfl), vw_836, vw_837, vw_13, vw_838, ⟨by decide +kernel, by decide +kernel⟩, by decide +kernel⟩
theorem vw_844 : (Jvm.Cond.selects "HashTreeSigner$Sha512" ({ cls := "HashTreeSigner$Sha2", name := "compress", desc := "()V" } : Jvm.MethodName) ({ cls := "HashTreeSigner$Sha512", name := "compress", desc := "()V" } : Jvm.MethodName)) ∈ vGW := vGW_at 844 (by decide +kernel) (by decide +kernel)
theorem vw_845 : (Jvm.Cond.instanceMethod ({ cls := "HashTreeSigner$Sha512", name := "compress", desc := "()V" } : Jvm.MethodName)) ∈ vGW := vGW_at 845 (by decide +kernel) (by decide +kernel)
theorem vw_14 : (Jvm.Cond.initialized "HashTreeSigner$Sha512") ∈ vGW := vGW_at 14 (by decide +kernel) (by decide +kernel)
set_option maxRecDepth 100000 in
theorem vw_846 : (Jvm.Cond.code ({ cls := "HashTreeSigner$Sha512", name := "compress", desc := "()V" } : Jvm.MethodName) prog_8_method_2_code (26 : Nat) (Option.none : Option Jvm.ClassFile.FieldType)) ∈ vGW := vGW_at 846 rfl rfl
theorem mX3_43_X6 : vLU RX3 43 ({ cls := "HashTreeSigner$Sha2", name := "compress", desc := "()V" } : Jvm.MethodName) yX6_compress cX6_compress 26 none 0 4 := ⟨_, "HashTreeSigner$Sha2", rfl, vw_833, vw_835, Or.inl (List.mem_of_getElem? (i := 8) rfl), vw_844, vw_845, vw_14, vw_846, ⟨by decide +kernel, by decide +kernel⟩, by decide +kernel⟩
theorem vw_904 : (Jvm.Cond.methodLink "HashTreeSigner$Sha2" (46 : Nat) ({ cls := "java/util/Arrays", name := "fill", desc := "([BIIB)V" } : Jvm.MethodName)) ∈ vGW := vGW_at 904 (by decide +kernel) (by decide +kernel)
theorem mX3_46 : vLS RX3 46 yJ7_fill_eb02e cJ7_fill_eb02e 5 none 4 := ⟨Or.inl vw_904, vw_457, vw_10, vw_458, ⟨by decide +kernel, by decide +kernel⟩, by decide +kernel⟩
theorem vw_222 : (Jvm.Cond.methodLink "HashTreeSigner$Sha256" (1 : Nat) ({ cls := "HashTreeSigner$Sha2", name := "<init>", desc := "(I)V" } : Jvm.MethodName)) ∈ vGW := vGW_at 222 (by decide +kernel) (by decide +kernel)
theorem vw_223 : (Jvm.Cond.instanceMethod ({ cls := "HashTreeSigner$Sha2", name := "<init>", desc := "(I)V" } : Jvm.MethodName)) ∈ vGW := vGW_at 223 (by decide +kernel) (by decide +kernel)
theorem vw_12 : (Jvm.Cond.initialized "HashTreeSigner$Sha2") ∈ vGW := vGW_at 12 (by decide +kernel) (by decide +kernel)
set_option maxRecDepth 100000 in
theorem vw_224 : (Jvm.Cond.code ({ cls := "HashTreeSigner$Sha2", name := "<init>", desc := "(I)V" } : Jvm.MethodName) prog_5_method_1_code (2 : Nat) (Option.none : Option Jvm.ClassFile.FieldType)) ∈ vGW := vGW_at 224 rfl rfl
theorem mX4_1 : vLI RX4 1 yX3_init cX3_init 2 1 := ⟨Or.inl vw_222, vw_223, vw_12, vw_224, rfl, ⟨by decide +kernel, by decide +kernel⟩, by decide +kernel⟩
theorem vw_839 : (Jvm.Cond.methodLink "HashTreeSigner$Sha256" (17 : Nat) ({ cls := "java/lang/Integer", name := "rotateRight", desc := "(II)I" } : Jvm.MethodName)) ∈ vGW := vGW_at 839 (by decide +kernel) (by decide +kernel)
theorem vw_840 : (Jvm.Cond.static ({ cls := "java/lang/Integer", name := "rotateRight", desc := "(II)I" } : Jvm.MethodName)) ∈ vGW := vGW_at 840 (by decide +kernel) (by decide +kernel)
theorem vw_30 : (Jvm.Cond.initialized "java/lang/Integer") ∈ vGW := vGW_at 30 (by decide +kernel) (by decide +kernel)
set_option maxRecDepth 100000 in
theorem vw_841 : (Jvm.Cond.code ({ cls := "java/lang/Integer", name := "rotateRight", desc := "(II)I" } : Jvm.MethodName) prog_23_method_51_code (2 : Nat) (Option.some Jvm.ClassFile.FieldType.int)) ∈ vGW := vGW_at 841 rfl rfl
theorem mX4_17 : vLS RX4 17 yJ6_rotateRight_7cf53 cJ6_rotateRight_7cf53 2 (some .int) 2 := ⟨Or.inl vw_839, vw_840, vw_30, vw_841, ⟨by decide +kernel, by decide +kernel⟩, by decide +kernel⟩
theorem vw_215 : (Jvm.Cond.methodLink "HashTreeSigner$Sha2Family" (3 : Nat) ({ cls := "HashTreeSigner$Address", name := "<init>", desc := "(IIII)V" } : Jvm.MethodName)) ∈ vGW := vGW_at 215 (by decide +kernel) (by decide +kernel)
theorem vw_57 : (Jvm.Cond.instanceMethod ({ cls := "HashTreeSigner$Address", name := "<init>", desc := "(IIII)V" } : Jvm.MethodName)) ∈ vGW := vGW_at 57 (by decide +kernel) (by decide +kernel)
set_option maxRecDepth 100000 in
theorem vw_58 : (Jvm.Cond.code ({ cls := "HashTreeSigner$Address", name := "<init>", desc := "(IIII)V" } : Jvm.MethodName) prog_2_method_1_code (5 : Nat) (Option.none : Option Jvm.ClassFile.FieldType)) ∈ vGW := vGW_at 58 rfl rfl
theorem mX5_3 : vLI RX5 3 yX0_init cX0_init 5 4 := ⟨Or.inl vw_215, vw_57, vw_5, vw_58, rfl, ⟨by decide +kernel, by decide +kernel⟩, by decide +kernel⟩
theorem vw_216 : (Jvm.Cond.methodLink "HashTreeSigner$Sha2Family" (7 : Nat) ({ cls := "HashTreeSigner$Family", name := "<init>", desc := "(LHashTreeSigner$Address;)V" } : Jvm.MethodName)) ∈ vGW := vGW_at 216 (by decide +kernel) (by decide +kernel)
theorem vw_81 : (Jvm.Cond.instanceMethod ({ cls := "HashTreeSigner$Family", name := "<init>", desc := "(LHashTreeSigner$Address;)V" } : Jvm.MethodName)) ∈ vGW := vGW_at 81 (by decide +kernel) (by decide +kernel)
theorem vw_3 : (Jvm.Cond.initialized "HashTreeSigner$Family") ∈ vGW := vGW_at 3 (by decide +kernel) (by decide +kernel)
set_option maxRecDepth 100000 in
theorem vw_82 : (Jvm.Cond.code ({ cls := "HashTreeSigner$Family", name := "<init>", desc := "(LHashTreeSigner$Address;)V" } : Jvm.MethodName) prog_4_method_1_code (2 : Nat) (Option.none : Option Jvm.ClassFile.FieldType)) ∈ vGW := vGW_at 82 rfl rfl
theorem mX5_7 : vLI RX5 7 yX2_init cX2_init 2 1 := ⟨Or.inl vw_216, vw_81, vw_3, vw_82, rfl, ⟨by decide +kernel, by decide +kernel⟩, by decide +kernel⟩
theorem vw_219 : (Jvm.Cond.methodLink "HashTreeSigner$Sha2Family" (14 : Nat) ({ cls := "HashTreeSigner$Sha256", name := "<init>", desc := "()V" } : Jvm.MethodName)) ∈ vGW := vGW_at 219 (by decide +kernel) (by decide +kernel)
theorem vw_220 : (Jvm.Cond.instanceMethod ({ cls := "HashTreeSigner$Sha256", name := "<init>", desc := "()V" } : Jvm.MethodName)) ∈ vGW := vGW_at 220 (by decide +kernel) (by decide +kernel)
set_option maxRecDepth 100000 in
theorem vw_221 : (Jvm.Cond.code ({ cls := "HashTreeSigner$Sha256", name := "<init>", desc := "()V" } : Jvm.MethodName) prog_6_method_1_code (1 : Nat) (Option.none : Option Jvm.ClassFile.FieldType)) ∈ vGW := vGW_at 221 rfl rfl
theorem mX5_14 : vLI RX5 14 yX4_init cX4_init 1 0 := ⟨Or.inl vw_219, vw_220, vw_13, vw_221, rfl, ⟨by decide +kernel, by decide +kernel⟩, by decide +kernel⟩
theorem vw_262 : (Jvm.Cond.methodLink "HashTreeSigner$Sha2Family" (25 : Nat) ({ cls := "HashTreeSigner$Sha512", name := "<init>", desc := "()V" } : Jvm.MethodName)) ∈ vGW := vGW_at 262 (by decide +kernel) (by decide +kernel)
theorem vw_263 : (Jvm.Cond.instanceMethod ({ cls := "HashTreeSigner$Sha512", name := "<init>", desc := "()V" } : Jvm.MethodName)) ∈ vGW := vGW_at 263 (by decide +kernel) (by decide +kernel)
set_option maxRecDepth 100000 in
theorem vw_264 : (Jvm.Cond.code ({ cls := "HashTreeSigner$Sha512", name := "<init>", desc := "()V" } : Jvm.MethodName) prog_8_method_1_code (1 : Nat) (Option.none : Option Jvm.ClassFile.FieldType)) ∈ vGW := vGW_at 264 rfl rfl
theorem mX5_25 : vLI RX5 25 yX6_init cX6_init 1 0 := ⟨Or.inl vw_262, vw_263, vw_14, vw_264, rfl, ⟨by decide +kernel, by decide +kernel⟩, by decide +kernel⟩
theorem vw_816 : (Jvm.Cond.methodLink "HashTreeSigner$Sha2Family" (39 : Nat) ({ cls := "java/util/Arrays", name := "fill", desc := "([BB)V" } : Jvm.MethodName)) ∈ vGW := vGW_at 816 (by decide +kernel) (by decide +kernel)
theorem vw_817 : (Jvm.Cond.static ({ cls := "java/util/Arrays", name := "fill", desc := "([BB)V" } : Jvm.MethodName)) ∈ vGW := vGW_at 817 (by decide +kernel) (by decide +kernel)
set_option maxRecDepth 100000 in
theorem vw_818 : (Jvm.Cond.code ({ cls := "java/util/Arrays", name := "fill", desc := "([BB)V" } : Jvm.MethodName) prog_34_method_109_code (4 : Nat) (Option.none : Option Jvm.ClassFile.FieldType)) ∈ vGW := vGW_at 818 rfl rfl
theorem mX5_39 : vLS RX5 39 yJ7_fill_031fb cJ7_fill_031fb 4 none 2 := ⟨Or.inl vw_816, vw_817, vw_10, vw_818, ⟨by decide +kernel, by decide +kernel⟩, by decide +kernel⟩
theorem vw_820 : (Jvm.Cond.instanceMethod ({ cls := "HashTreeSigner$Sha2", name := "start", desc := "()V" } : Jvm.MethodName)) ∈ vGW := vGW_at 820 (by decide +kernel) (by decide +kernel)
set_option maxRecDepth 100000 in
theorem vw_824 : (Jvm.Cond.code ({ cls := "HashTreeSigner$Sha2", name := "start", desc := "()V" } : Jvm.MethodName) prog_5_method_3_code (3 : Nat) (Option.none : Option Jvm.ClassFile.FieldType)) ∈ vGW := vGW_at 824 rfl rfl
theorem vw_819 : (Jvm.Cond.methodLink "HashTreeSigner$Sha2Family" (45 : Nat) ({ cls := "HashTreeSigner$Sha2", name := "start", desc := "()V" } : Jvm.MethodName)) ∈ vGW := vGW_at 819 (by decide +kernel) (by decide +kernel)
theorem vw_821 : (Jvm.Cond.sameMethod "HashTreeSigner$Sha2" "HashTreeSigner$Sha2" "start" "()V") ∈ vGW := vGW_at 821 (by decide +kernel) (by decide +kernel)
theorem vw_822 : (Jvm.Cond.selects "HashTreeSigner$Sha256" ({ cls := "HashTreeSigner$Sha2", name := "start", desc := "()V" } : Jvm.MethodName) ({ cls := "HashTreeSigner$Sha2", name := "start", desc := "()V" } : Jvm.MethodName)) ∈ vGW := vGW_at 822 (by decide +kernel) (by decide +kernel)
theorem mX5_45_X4 : vLU RX5 45 yX3_start yX3_start cX3_start 3 none 0 2 := ⟨_, "HashTreeSigner$Sha2", rfl, vw_819, vw_821, Or.inr ⟨_, _, _, vw_820, vw_824⟩, vw_822, vw_820, vw_12, vw_824, ⟨by decide +kernel, by decide +kernel⟩, by decide +kernel⟩
theorem vw_823 : (Jvm.Cond.selects "HashTreeSigner$Sha512" ({ cls := "HashTreeSigner$Sha2", name := "start", desc := "()V" } : Jvm.MethodName) ({ cls := "HashTreeSigner$Sha2", name := "start", desc := "()V" } : Jvm.MethodName)) ∈ vGW := vGW_at 823 (by decide +kernel) (by decide +kernel)
theorem mX5_45_X6 : vLU RX5 45 yX3_start yX3_start cX3_start 3 none 0 4 := ⟨_, "HashTreeSigner$Sha2", rfl, vw_819, vw_821, Or.inr ⟨_, _, _, vw_820, vw_824⟩, vw_823, vw_820, vw_12, vw_824, ⟨by decide +kernel, by decide +kernel⟩, by decide +kernel⟩
theorem vw_828 : (Jvm.Cond.instanceMethod ({ cls := "HashTreeSigner$Sha2", name := "add", desc := "([BII)V" } : Jvm.MethodName)) ∈ vGW := vGW_at 828 (by decide +kernel) (by decide +kernel)
set_option maxRecDepth 100000 in
theorem vw_832 : (Jvm.Cond.code ({ cls := "HashTreeSigner$Sha2", name := "add", desc := "([BII)V" } : Jvm.MethodName) prog_5_method_6_code (5 : Nat) (Option.none : Option Jvm.ClassFile.FieldType)) ∈ vGW := vGW_at 832 rfl rfl
theorem vw_827 : (Jvm.Cond.methodLink "HashTreeSigner$Sha2Family" (57 : Nat) ({ cls := "HashTreeSigner$Sha2", name := "add", desc := "([BII)V" } : Jvm.MethodName)) ∈ vGW := vGW_at 827 (by decide +kernel) (by decide +kernel)
theorem vw_829 : (Jvm.Cond.sameMethod "HashTreeSigner$Sha2" "HashTreeSigner$Sha2" "add" "([BII)V") ∈ vGW := vGW_at 829 (by decide +kernel) (by decide +kernel)
theorem vw_830 : (Jvm.Cond.selects "HashTreeSigner$Sha256" ({ cls := "HashTreeSigner$Sha2", name := "add", desc := "([BII)V" } : Jvm.MethodName) ({ cls := "HashTreeSigner$Sha2", name := "add", desc := "([BII)V" } : Jvm.MethodName)) ∈ vGW := vGW_at 830 (by decide +kernel) (by decide +kernel)
theorem mX5_57_X4 : vLU RX5 57 yX3_add yX3_add cX3_add 5 none 3 2 := ⟨_, "HashTreeSigner$Sha2", rfl, vw_827, vw_829, Or.inr ⟨_, _, _, vw_828, vw_832⟩, vw_830, vw_828, vw_12, vw_832, ⟨by decide +kernel, by decide +kernel⟩, by decide +kernel⟩
theorem vw_831 : (Jvm.Cond.selects "HashTreeSigner$Sha512" ({ cls := "HashTreeSigner$Sha2", name := "add", desc := "([BII)V" } : Jvm.MethodName) ({ cls := "HashTreeSigner$Sha2", name := "add", desc := "([BII)V" } : Jvm.MethodName)) ∈ vGW := vGW_at 831 (by decide +kernel) (by decide +kernel)
theorem mX5_57_X6 : vLU RX5 57 yX3_add yX3_add cX3_add 5 none 3 4 := ⟨_, "HashTreeSigner$Sha2", rfl, vw_827, vw_829, Or.inr ⟨_, _, _, vw_828, vw_832⟩, vw_831, vw_828, vw_12, vw_832, ⟨by decide +kernel, by decide +kernel⟩, by decide +kernel⟩
theorem vw_853 : (Jvm.Cond.instanceMethod ({ cls := "HashTreeSigner$Sha2", name := "keep", desc := "()V" } : Jvm.MethodName)) ∈ vGW := vGW_at 853 (by decide +kernel) (by decide +kernel)
set_option maxRecDepth 100000 in
theorem vw_857 : (Jvm.Cond.code ({ cls := "HashTreeSigner$Sha2", name := "keep", desc := "()V" } : Jvm.MethodName) prog_5_method_4_code (1 : Nat) (Option.none : Option Jvm.ClassFile.FieldType)) ∈ vGW := vGW_at 857 rfl rfl
theorem vw_852 : (Jvm.Cond.methodLink "HashTreeSigner$Sha2Family" (64 : Nat) ({ cls := "HashTreeSigner$Sha2", name := "keep", desc := "()V" } : Jvm.MethodName)) ∈ vGW := vGW_at 852 (by decide +kernel) (by decide +kernel)
theorem vw_854 : (Jvm.Cond.sameMethod "HashTreeSigner$Sha2" "HashTreeSigner$Sha2" "keep" "()V") ∈ vGW := vGW_at 854 (by decide +kernel) (by decide +kernel)
theorem vw_855 : (Jvm.Cond.selects "HashTreeSigner$Sha256" ({ cls := "HashTreeSigner$Sha2", name := "keep", desc := "()V" } : Jvm.MethodName) ({ cls := "HashTreeSigner$Sha2", name := "keep", desc := "()V" } : Jvm.MethodName)) ∈ vGW := vGW_at 855 (by decide +kernel) (by decide +kernel)
theorem mX5_64_X4 : vLU RX5 64 yX3_keep yX3_keep cX3_keep 1 none 0 2 := ⟨_, "HashTreeSigner$Sha2", rfl, vw_852, vw_854, Or.inr ⟨_, _, _, vw_853, vw_857⟩, vw_855, vw_853, vw_12, vw_857, ⟨by decide +kernel, by decide +kernel⟩, by decide +kernel⟩
theorem vw_856 : (Jvm.Cond.selects "HashTreeSigner$Sha512" ({ cls := "HashTreeSigner$Sha2", name := "keep", desc := "()V" } : Jvm.MethodName) ({ cls := "HashTreeSigner$Sha2", name := "keep", desc := "()V" } : Jvm.MethodName)) ∈ vGW := vGW_at 856 (by decide +kernel) (by decide +kernel)
theorem mX5_64_X6 : vLU RX5 64 yX3_keep yX3_keep cX3_keep 1 none 0 4 := ⟨_, "HashTreeSigner$Sha2", rfl, vw_852, vw_854, Or.inr ⟨_, _, _, vw_853, vw_857⟩, vw_856, vw_853, vw_12, vw_857, ⟨by decide +kernel, by decide +kernel⟩, by decide +kernel⟩
theorem vw_893 : (Jvm.Cond.instanceMethod ({ cls := "HashTreeSigner$Sha2", name := "resume", desc := "()V" } : Jvm.MethodName)) ∈ vGW := vGW_at 893 (by decide +kernel) (by decide +kernel)
set_option maxRecDepth 100000 in
theorem vw_897 : (Jvm.Cond.code ({ cls := "HashTreeSigner$Sha2", name := "resume", desc := "()V" } : Jvm.MethodName) prog_5_method_5_code (1 : Nat) (Option.none : Option Jvm.ClassFile.FieldType)) ∈ vGW := vGW_at 897 rfl rfl
theorem vw_892 : (Jvm.Cond.methodLink "HashTreeSigner$Sha2Family" (67 : Nat) ({ cls := "HashTreeSigner$Sha2", name := "resume", desc := "()V" } : Jvm.MethodName)) ∈ vGW := vGW_at 892 (by decide +kernel) (by decide +kernel)
theorem vw_894 : (Jvm.Cond.sameMethod "HashTreeSigner$Sha2" "HashTreeSigner$Sha2" "resume" "()V") ∈ vGW := vGW_at 894 (by decide +kernel) (by decide +kernel)
theorem vw_895 : (Jvm.Cond.selects "HashTreeSigner$Sha256" ({ cls := "HashTreeSigner$Sha2", name := "resume", desc := "()V" } : Jvm.MethodName) ({ cls := "HashTreeSigner$Sha2", name := "resume", desc := "()V" } : Jvm.MethodName)) ∈ vGW := vGW_at 895 (by decide +kernel) (by decide +kernel)
theorem mX5_67_X4 : vLU RX5 67 yX3_resume yX3_resume cX3_resume 1 none 0 2 := ⟨_, "HashTreeSigner$Sha2", rfl, vw_892, vw_894, Or.inr ⟨_, _, _, vw_893, vw_897⟩, vw_895, vw_893, vw_12, vw_897, ⟨by decide +kernel, by decide +kernel⟩, by decide +kernel⟩
theorem vw_896 : (Jvm.Cond.selects "HashTreeSigner$Sha512" ({ cls := "HashTreeSigner$Sha2", name := "resume", desc := "()V" } : Jvm.MethodName) ({ cls := "HashTreeSigner$Sha2", name := "resume", desc := "()V" } : Jvm.MethodName)) ∈ vGW := vGW_at 896 (by decide +kernel) (by decide +kernel)
theorem mX5_67_X6 : vLU RX5 67 yX3_resume yX3_resume cX3_resume 1 none 0 4 := ⟨_, "HashTreeSigner$Sha2", rfl, vw_892, vw_894, Or.inr ⟨_, _, _, vw_893, vw_897⟩, vw_896, vw_893, vw_12, vw_897, ⟨by decide +kernel, by decide +kernel⟩, by decide +kernel⟩
theorem vw_899 : (Jvm.Cond.instanceMethod ({ cls := "HashTreeSigner$Sha2", name := "finish", desc := "([BII)V" } : Jvm.MethodName)) ∈ vGW := vGW_at 899 (by decide +kernel) (by decide +kernel)
set_option maxRecDepth 100000 in
theorem vw_903 : (Jvm.Cond.code ({ cls := "HashTreeSigner$Sha2", name := "finish", desc := "([BII)V" } : Jvm.MethodName) prog_5_method_7_code (6 : Nat) (Option.none : Option Jvm.ClassFile.FieldType)) ∈ vGW := vGW_at 903 rfl rfl
theorem vw_898 : (Jvm.Cond.methodLink "HashTreeSigner$Sha2Family" (77 : Nat) ({ cls := "HashTreeSigner$Sha2", name := "finish", desc := "([BII)V" } : Jvm.MethodName)) ∈ vGW := vGW_at 898 (by decide +kernel) (by decide +kernel)
theorem vw_900 : (Jvm.Cond.sameMethod "HashTreeSigner$Sha2" "HashTreeSigner$Sha2" "finish" "([BII)V") ∈ vGW := vGW_at 900 (by decide +kernel) (by decide +kernel)
theorem vw_901 : (Jvm.Cond.selects "HashTreeSigner$Sha256" ({ cls := "HashTreeSigner$Sha2", name := "finish", desc := "([BII)V" } : Jvm.MethodName) ({ cls := "HashTreeSigner$Sha2", name := "finish", desc := "([BII)V" } : Jvm.MethodName)) ∈ vGW := vGW_at 901 (by decide +kernel) (by decide +kernel)
theorem mX5_77_X4 : vLU RX5 77 yX3_finish yX3_finish cX3_finish 6 none 3 2 := ⟨_, "HashTreeSigner$Sha2", rfl, vw_898, vw_900, Or.inr ⟨_, _, _, vw_899, vw_903⟩, vw_901, vw_899, vw_12, vw_903, ⟨by decide +kernel, by decide +kernel⟩, by decide +kernel⟩
theorem vw_902 : (Jvm.Cond.selects "HashTreeSigner$Sha512" ({ cls := "HashTreeSigner$Sha2", name := "finish", desc := "([BII)V" } : Jvm.MethodName) ({ cls := "HashTreeSigner$Sha2", name := "finish", desc := "([BII)V" } : Jvm.MethodName)) ∈ vGW := vGW_at 902 (by decide +kernel) (by decide +kernel)
theorem mX5_77_X6 : vLU RX5 77 yX3_finish yX3_finish cX3_finish 6 none 3 4 := ⟨_, "HashTreeSigner$Sha2", rfl, vw_898, vw_900, Or.inr ⟨_, _, _, vw_899, vw_903⟩, vw_902, vw_899, vw_12, vw_903, ⟨by decide +kernel, by decide +kernel⟩, by decide +kernel⟩
theorem vw_1008 : (Jvm.Cond.methodLink "HashTreeSigner$Sha2Family" (80 : Nat) ({ cls := "HashTreeSigner$Sha2Family", name := "messageHash", desc := "()LHashTreeSigner$Sha2;" } : Jvm.MethodName)) ∈ vGW := vGW_at 1008 (by decide +kernel) (by decide +kernel)
theorem vw_1010 : (Jvm.Cond.instanceMethod ({ cls := "HashTreeSigner$Sha2Family", name := "messageHash", desc := "()LHashTreeSigner$Sha2;" } : Jvm.MethodName)) ∈ vGW := vGW_at 1010 (by decide +kernel) (by decide +kernel)
theorem vs_11 : (Jvm.Cond.selects "HashTreeSigner$Sha2Family" ({ cls := "HashTreeSigner$Sha2Family", name := "messageHash", desc := "()LHashTreeSigner$Sha2;" } : Jvm.MethodName) ({ cls := "HashTreeSigner$Sha2Family", name := "messageHash", desc := "()LHashTreeSigner$Sha2;" } : Jvm.MethodName)) ∈ vGW := vGW_sel 11 (by decide +kernel) (by decide +kernel)
set_option maxRecDepth 100000 in
theorem vw_1011 : (Jvm.Cond.code ({ cls := "HashTreeSigner$Sha2Family", name := "messageHash", desc := "()LHashTreeSigner$Sha2;" } : Jvm.MethodName) prog_7_method_6_code (1 : Nat) (Option.some (Jvm.ClassFile.FieldType.object "HashTreeSigner$Sha2"))) ∈ vGW := vGW_at 1011 rfl rfl
theorem mX5_80 : vLV RX5 80 yX5_messageHash cX5_messageHash 1 (some (.object "HashTreeSigner$Sha2")) 0 3 := ⟨⟨_, rfl, rfl⟩, Or.inl vw_1008, vw_1010, vs_11, vw_11, vw_1011, ⟨by decide +kernel, by decide +kernel⟩, by decide +kernel⟩
theorem vw_1012 : (Jvm.Cond.methodLink "HashTreeSigner$Sha2Family" (84 : Nat) ({ cls := "HashTreeSigner$Sha2Family", name := "startKeyed", desc := "(LHashTreeSigner$Sha2;I)V" } : Jvm.MethodName)) ∈ vGW := vGW_at 1012 (by decide +kernel) (by decide +kernel)
theorem vw_1014 : (Jvm.Cond.instanceMethod ({ cls := "HashTreeSigner$Sha2Family", name := "startKeyed", desc := "(LHashTreeSigner$Sha2;I)V" } : Jvm.MethodName)) ∈ vGW := vGW_at 1014 (by decide +kernel) (by decide +kernel)
theorem vs_12 : (Jvm.Cond.selects "HashTreeSigner$Sha2Family" ({ cls := "HashTreeSigner$Sha2Family", name := "startKeyed", desc := "(LHashTreeSigner$Sha2;I)V" } : Jvm.MethodName) ({ cls := "HashTreeSigner$Sha2Family", name := "startKeyed", desc := "(LHashTreeSigner$Sha2;I)V" } : Jvm.MethodName)) ∈ vGW := vGW_sel 12 (by decide +kernel) (by decide +kernel)
set_option maxRecDepth 100000 in
theorem vw_1015 : (Jvm.Cond.code ({ cls := "HashTreeSigner$Sha2Family", name := "startKeyed", desc := "(LHashTreeSigner$Sha2;I)V" } : Jvm.MethodName) prog_7_method_7_code (4 : Nat) (Option.none : Option Jvm.ClassFile.FieldType)) ∈ vGW := vGW_at 1015 rfl rfl
theorem mX5_84 : vLV RX5 84 yX5_startKeyed cX5_startKeyed 4 none 2 3 := ⟨⟨_, rfl, rfl⟩, Or.inl vw_1012, vw_1014, vs_12, vw_11, vw_1015, ⟨by decide +kernel, by decide +kernel⟩, by decide +kernel⟩
theorem vw_1029 : (Jvm.Cond.methodLink "HashTreeSigner$Sha2Family" (88 : Nat) ({ cls := "java/lang/Math", name := "min", desc := "(II)I" } : Jvm.MethodName)) ∈ vGW := vGW_at 1029 (by decide +kernel) (by decide +kernel)
theorem vw_536 : (Jvm.Cond.static ({ cls := "java/lang/Math", name := "min", desc := "(II)I" } : Jvm.MethodName)) ∈ vGW := vGW_at 536 (by decide +kernel) (by decide +kernel)
theorem vw_27 : (Jvm.Cond.initialized "java/lang/Math") ∈ vGW := vGW_at 27 (by decide +kernel) (by decide +kernel)
set_option maxRecDepth 100000 in
theorem vw_537 : (Jvm.Cond.code ({ cls := "java/lang/Math", name := "min", desc := "(II)I" } : Jvm.MethodName) prog_25_method_69_code (2 : Nat) (Option.some Jvm.ClassFile.FieldType.int)) ∈ vGW := vGW_at 537 rfl rfl
theorem mX5_88 : vLS RX5 88 yJ9_min_7cf53 cJ9_min_7cf53 2 (some .int) 2 := ⟨Or.inl vw_1029, vw_536, vw_27, vw_537, ⟨by decide +kernel, by decide +kernel⟩, by decide +kernel⟩
theorem vw_265 : (Jvm.Cond.methodLink "HashTreeSigner$Sha512" (1 : Nat) ({ cls := "HashTreeSigner$Sha2", name := "<init>", desc := "(I)V" } : Jvm.MethodName)) ∈ vGW := vGW_at 265 (by decide +kernel) (by decide +kernel)
theorem mX6_1 : vLI RX6 1 yX3_init cX3_init 2 1 := ⟨Or.inl vw_265, vw_223, vw_12, vw_224, rfl, ⟨by decide +kernel, by decide +kernel⟩, by decide +kernel⟩
theorem vw_847 : (Jvm.Cond.methodLink "HashTreeSigner$Sha512" (17 : Nat) ({ cls := "java/lang/Long", name := "rotateRight", desc := "(JI)J" } : Jvm.MethodName)) ∈ vGW := vGW_at 847 (by decide +kernel) (by decide +kernel)
theorem vw_848 : (Jvm.Cond.static ({ cls := "java/lang/Long", name := "rotateRight", desc := "(JI)J" } : Jvm.MethodName)) ∈ vGW := vGW_at 848 (by decide +kernel) (by decide +kernel)
theorem vw_33 : (Jvm.Cond.initialized "java/lang/Long") ∈ vGW := vGW_at 33 (by decide +kernel) (by decide +kernel)
set_option maxRecDepth 100000 in
theorem vw_849 : (Jvm.Cond.code ({ cls := "java/lang/Long", name := "rotateRight", desc := "(JI)J" } : Jvm.MethodName) prog_24_method_52_code (3 : Nat) (Option.some Jvm.ClassFile.FieldType.long)) ∈ vGW := vGW_at 849 rfl rfl
theorem mX6_17 : vLS RX6 17 yJ13_rotateRight_b2ac5 cJ13_rotateRight_b2ac5 3 (some .long) 2 := ⟨Or.inl vw_847, vw_848, vw_33, vw_849, ⟨by decide +kernel, by decide +kernel⟩, by decide +kernel⟩
theorem vw_56 : (Jvm.Cond.methodLink "HashTreeSigner$ShakeFamily" (3 : Nat) ({ cls := "HashTreeSigner$Address", name := "<init>", desc := "(IIII)V" } : Jvm.MethodName)) ∈ vGW := vGW_at 56 (by decide +kernel) (by decide +kernel)
theorem mX7_3 : vLI RX7 3 yX0_init cX0_init 5 4 := ⟨Or.inl vw_56, vw_57, vw_5, vw_58, rfl, ⟨by decide +kernel, by decide +kernel⟩, by decide +kernel⟩
theorem vw_80 : (Jvm.Cond.methodLink "HashTreeSigner$ShakeFamily" (7 : Nat) ({ cls := "HashTreeSigner$Family", name := "<init>", desc := "(LHashTreeSigner$Address;)V" } : Jvm.MethodName)) ∈ vGW := vGW_at 80 (by decide +kernel) (by decide +kernel)
theorem mX7_7 : vLI RX7 7 yX2_init cX2_init 2 1 := ⟨Or.inl vw_80, vw_81, vw_3, vw_82, rfl, ⟨by decide +kernel, by decide +kernel⟩, by decide +kernel⟩
theorem vw_87 : (Jvm.Cond.instanceMethod ({ cls := "HashTreeSigner$Sponge", name := "<init>", desc := "()V" } : Jvm.MethodName)) ∈ vGW := vGW_at 87 (by decide +kernel) (by decide +kernel)
theorem vw_6 : (Jvm.Cond.initialized "HashTreeSigner$Sponge") ∈ vGW := vGW_at 6 (by decide +kernel) (by decide +kernel)
set_option maxRecDepth 100000 in
theorem vw_88 : (Jvm.Cond.code ({ cls := "HashTreeSigner$Sponge", name := "<init>", desc := "()V" } : Jvm.MethodName) prog_11_method_1_code (1 : Nat) (Option.none : Option Jvm.ClassFile.FieldType)) ∈ vGW := vGW_at 88 rfl rfl
theorem mX7_14 : vLI RX7 14 yX9_init cX9_init 1 0 := ⟨Or.inr ⟨"HashTreeSigner", List.mem_of_getElem? (i := 0) rfl⟩, vw_87, vw_6, vw_88, rfl, ⟨by decide +kernel, by decide +kernel⟩, by decide +kernel⟩
theorem vw_909 : (Jvm.Cond.methodLink "HashTreeSigner$ShakeFamily" (23 : Nat) ({ cls := "HashTreeSigner$Sponge", name := "start", desc := "()V" } : Jvm.MethodName)) ∈ vGW := vGW_at 909 (by decide +kernel) (by decide +kernel)
theorem vw_910 : (Jvm.Cond.instanceMethod ({ cls := "HashTreeSigner$Sponge", name := "start", desc := "()V" } : Jvm.MethodName)) ∈ vGW := vGW_at 910 (by decide +kernel) (by decide +kernel)
theorem vw_911 : (Jvm.Cond.selects "HashTreeSigner$Sponge" ({ cls := "HashTreeSigner$Sponge", name := "start", desc := "()V" } : Jvm.MethodName) ({ cls := "HashTreeSigner$Sponge", name := "start", desc := "()V" } : Jvm.MethodName)) ∈ vGW := vGW_at 911 (by decide +kernel) (by decide +kernel)
set_option maxRecDepth 100000 in
theorem vw_912 : (Jvm.Cond.code ({ cls := "HashTreeSigner$Sponge", name := "start", desc := "()V" } : Jvm.MethodName) prog_11_method_2_code (1 : Nat) (Option.none : Option Jvm.ClassFile.FieldType)) ∈ vGW := vGW_at 912 rfl rfl
theorem mX7_23 : vLV RX7 23 yX9_start cX9_start 1 none 0 6 := ⟨⟨_, rfl, rfl⟩, Or.inl vw_909, vw_910, vw_911, vw_6, vw_912, ⟨by decide +kernel, by decide +kernel⟩, by decide +kernel⟩
theorem vw_916 : (Jvm.Cond.methodLink "HashTreeSigner$ShakeFamily" (34 : Nat) ({ cls := "HashTreeSigner$Sponge", name := "add", desc := "([BII)V" } : Jvm.MethodName)) ∈ vGW := vGW_at 916 (by decide +kernel) (by decide +kernel)
theorem vw_917 : (Jvm.Cond.instanceMethod ({ cls := "HashTreeSigner$Sponge", name := "add", desc := "([BII)V" } : Jvm.MethodName)) ∈ vGW := vGW_at 917 (by decide +kernel) (by decide +kernel)
theorem vw_918 : (Jvm.Cond.selects "HashTreeSigner$Sponge" ({ cls := "HashTreeSigner$Sponge", name := "add", desc := "([BII)V" } : Jvm.MethodName) ({ cls := "HashTreeSigner$Sponge", name := "add", desc := "([BII)V" } : Jvm.MethodName)) ∈ vGW := vGW_at 918 (by decide +kernel) (by decide +kernel)
set_option maxRecDepth 100000 in
theorem vw_919 : (Jvm.Cond.code ({ cls := "HashTreeSigner$Sponge", name := "add", desc := "([BII)V" } : Jvm.MethodName) prog_11_method_3_code (5 : Nat) (Option.none : Option Jvm.ClassFile.FieldType)) ∈ vGW := vGW_at 919 rfl rfl
theorem mX7_34 : vLV RX7 34 yX9_add cX9_add 5 none 3 6 := ⟨⟨_, rfl, rfl⟩, Or.inl vw_916, vw_917, vw_918, vw_6, vw_919, ⟨by decide +kernel, by decide +kernel⟩, by decide +kernel⟩
theorem vw_931 : (Jvm.Cond.methodLink "HashTreeSigner$ShakeFamily" (45 : Nat) ({ cls := "HashTreeSigner$Sponge", name := "finish", desc := "([BII)V" } : Jvm.MethodName)) ∈ vGW := vGW_at 931 (by decide +kernel) (by decide +kernel)
theorem vw_932 : (Jvm.Cond.instanceMethod ({ cls := "HashTreeSigner$Sponge", name := "finish", desc := "([BII)V" } : Jvm.MethodName)) ∈ vGW := vGW_at 932 (by decide +kernel) (by decide +kernel)
theorem vw_933 : (Jvm.Cond.selects "HashTreeSigner$Sponge" ({ cls := "HashTreeSigner$Sponge", name := "finish", desc := "([BII)V" } : Jvm.MethodName) ({ cls := "HashTreeSigner$Sponge", name := "finish", desc := "([BII)V" } : Jvm.MethodName)) ∈ vGW := vGW_at 933 (by decide +kernel) (by decide +kernel)
set_option maxRecDepth 100000 in
theorem vw_934 : (Jvm.Cond.code ({ cls := "HashTreeSigner$Sponge", name := "finish", desc := "([BII)V" } : Jvm.MethodName) prog_11_method_4_code (5 : Nat) (Option.none : Option Jvm.ClassFile.FieldType)) ∈ vGW := vGW_at 934 rfl rfl
theorem mX7_45 : vLV RX7 45 yX9_finish cX9_finish 5 none 3 6 := ⟨⟨_, rfl, rfl⟩, Or.inl vw_931, vw_932, vw_933, vw_6, vw_934, ⟨by decide +kernel, by decide +kernel⟩, by decide +kernel⟩
theorem vw_913 : (Jvm.Cond.methodLink "HashTreeSigner$Sponge" (20 : Nat) ({ cls := "java/util/Arrays", name := "fill", desc := "([JJ)V" } : Jvm.MethodName)) ∈ vGW := vGW_at 913 (by decide +kernel) (by decide +kernel)
theorem vw_914 : (Jvm.Cond.static ({ cls := "java/util/Arrays", name := "fill", desc := "([JJ)V" } : Jvm.MethodName)) ∈ vGW := vGW_at 914 (by decide +kernel) (by decide +kernel)
set_option maxRecDepth 100000 in
theorem vw_915 : (Jvm.Cond.code ({ cls := "java/util/Arrays", name := "fill", desc := "([JJ)V" } : Jvm.MethodName) prog_34_method_101_code (5 : Nat) (Option.none : Option Jvm.ClassFile.FieldType)) ∈ vGW := vGW_at 915 rfl rfl
theorem mX9_20 : vLS RX9 20 yJ7_fill_d0a16 cJ7_fill_d0a16 5 none 2 := ⟨Or.inl vw_913, vw_914, vw_10, vw_915, ⟨by decide +kernel, by decide +kernel⟩, by decide +kernel⟩
theorem vw_921 : (Jvm.Cond.methodLink "HashTreeSigner$Sponge" (27 : Nat) ({ cls := "HashTreeSigner$Sponge", name := "permute", desc := "()V" } : Jvm.MethodName)) ∈ vGW := vGW_at 921 (by decide +kernel) (by decide +kernel)
theorem vw_923 : (Jvm.Cond.instanceMethod ({ cls := "HashTreeSigner$Sponge", name := "permute", desc := "()V" } : Jvm.MethodName)) ∈ vGW := vGW_at 923 (by decide +kernel) (by decide +kernel)
theorem vs_7 : (Jvm.Cond.selects "HashTreeSigner$Sponge" ({ cls := "HashTreeSigner$Sponge", name := "permute", desc := "()V" } : Jvm.MethodName) ({ cls := "HashTreeSigner$Sponge", name := "permute", desc := "()V" } : Jvm.MethodName)) ∈ vGW := vGW_sel 7 (by decide +kernel) (by decide +kernel)
set_option maxRecDepth 100000 in
theorem vw_924 : (Jvm.Cond.code ({ cls := "HashTreeSigner$Sponge", name := "permute", desc := "()V" } : Jvm.MethodName) prog_11_method_5_code (23 : Nat) (Option.none : Option Jvm.ClassFile.FieldType)) ∈ vGW := vGW_at 924 rfl rfl
theorem mX9_27 : vLV RX9 27 yX9_permute cX9_permute 23 none 0 6 := ⟨⟨_, rfl, rfl⟩, Or.inl vw_921, vw_923, vs_7, vw_6, vw_924, ⟨by decide +kernel, by decide +kernel⟩, by decide +kernel⟩
theorem vw_925 : (Jvm.Cond.methodLink "HashTreeSigner$Sponge" (34 : Nat) ({ cls := "java/lang/Long", name := "rotateLeft", desc := "(JI)J" } : Jvm.MethodName)) ∈ vGW := vGW_at 925 (by decide +kernel) (by decide +kernel)
theorem vw_926 : (Jvm.Cond.static ({ cls := "java/lang/Long", name := "rotateLeft", desc := "(JI)J" } : Jvm.MethodName)) ∈ vGW := vGW_at 926 (by decide +kernel) (by decide +kernel)
set_option maxRecDepth 100000 in
theorem vw_927 : (Jvm.Cond.code ({ cls := "java/lang/Long", name := "rotateLeft", desc := "(JI)J" } : Jvm.MethodName) prog_24_method_51_code (3 : Nat) (Option.some Jvm.ClassFile.FieldType.long)) ∈ vGW := vGW_at 927 rfl rfl
theorem mX9_34 : vLS RX9 34 yJ13_rotateLeft_b2ac5 cJ13_rotateLeft_b2ac5 3 (some .long) 2 := ⟨Or.inl vw_925, vw_926, vw_33, vw_927, ⟨by decide +kernel, by decide +kernel⟩, by decide +kernel⟩
theorem vw_138 : (Jvm.Cond.methodLink "HashTreeSigner$Trees" (56 : Nat) ({ cls := "HashTreeSigner$Chains", name := "<init>", desc := "(LHashTreeSigner$Family;)V" } : Jvm.MethodName)) ∈ vGW := vGW_at 138 (by decide +kernel) (by decide +kernel)
theorem vw_139 : (Jvm.Cond.instanceMethod ({ cls := "HashTreeSigner$Chains", name := "<init>", desc := "(LHashTreeSigner$Family;)V" } : Jvm.MethodName)) ∈ vGW := vGW_at 139 (by decide +kernel) (by decide +kernel)
theorem vw_9 : (Jvm.Cond.initialized "HashTreeSigner$Chains") ∈ vGW := vGW_at 9 (by decide +kernel) (by decide +kernel)
set_option maxRecDepth 100000 in
theorem vw_140 : (Jvm.Cond.code ({ cls := "HashTreeSigner$Chains", name := "<init>", desc := "(LHashTreeSigner$Family;)V" } : Jvm.MethodName) prog_3_method_1_code (2 : Nat) (Option.none : Option Jvm.ClassFile.FieldType)) ∈ vGW := vGW_at 140 rfl rfl
theorem mX10_56 : vLI RX10 56 yX1_init cX1_init 2 1 := ⟨Or.inl vw_138, vw_139, vw_9, vw_140, rfl, ⟨by decide +kernel, by decide +kernel⟩, by decide +kernel⟩
theorem vw_799 : (Jvm.Cond.methodLink "HashTreeSigner$Trees" (64 : Nat) ({ cls := "HashTreeSigner$Chains", name := "open", desc := "(LHashTreeSigner$Sizes;)V" } : Jvm.MethodName)) ∈ vGW := vGW_at 799 (by decide +kernel) (by decide +kernel)
theorem vw_800 : (Jvm.Cond.instanceMethod ({ cls := "HashTreeSigner$Chains", name := "open", desc := "(LHashTreeSigner$Sizes;)V" } : Jvm.MethodName)) ∈ vGW := vGW_at 800 (by decide +kernel) (by decide +kernel)
theorem vw_801 : (Jvm.Cond.selects "HashTreeSigner$Chains" ({ cls := "HashTreeSigner$Chains", name := "open", desc := "(LHashTreeSigner$Sizes;)V" } : Jvm.MethodName) ({ cls := "HashTreeSigner$Chains", name := "open", desc := "(LHashTreeSigner$Sizes;)V" } : Jvm.MethodName)) ∈ vGW := vGW_at 801 (by decide +kernel) (by decide +kernel)
set_option maxRecDepth 100000 in
theorem vw_802 : (Jvm.Cond.code ({ cls := "HashTreeSigner$Chains", name := "open", desc := "(LHashTreeSigner$Sizes;)V" } : Jvm.MethodName) prog_3_method_2_code (2 : Nat) (Option.none : Option Jvm.ClassFile.FieldType)) ∈ vGW := vGW_at 802 rfl rfl
theorem mX10_64 : vLV RX10 64 yX1_open cX1_open 2 none 1 1 := ⟨⟨_, rfl, rfl⟩, Or.inl vw_799, vw_800, vw_801, vw_9, vw_802, ⟨by decide +kernel, by decide +kernel⟩, by decide +kernel⟩
theorem vw_804 : (Jvm.Cond.instanceMethod ({ cls := "HashTreeSigner$Family", name := "open", desc := "(I[BII)V" } : Jvm.MethodName)) ∈ vGW := vGW_at 804 (by decide +kernel) (by decide +kernel)
set_option maxRecDepth 100000 in
theorem vw_808 : (Jvm.Cond.code ({ cls := "HashTreeSigner$Family", name := "open", desc := "(I[BII)V" } : Jvm.MethodName) prog_4_method_2_code (5 : Nat) (Option.none : Option Jvm.ClassFile.FieldType)) ∈ vGW := vGW_at 808 rfl rfl
theorem vw_803 : (Jvm.Cond.methodLink "HashTreeSigner$Trees" (68 : Nat) ({ cls := "HashTreeSigner$Family", name := "open", desc := "(I[BII)V" } : Jvm.MethodName)) ∈ vGW := vGW_at 803 (by decide +kernel) (by decide +kernel)
theorem vw_805 : (Jvm.Cond.sameMethod "HashTreeSigner$Family" "HashTreeSigner$Family" "open" "(I[BII)V") ∈ vGW := vGW_at 805 (by decide +kernel) (by decide +kernel)
theorem vw_806 : (Jvm.Cond.selects "HashTreeSigner$Sha2Family" ({ cls := "HashTreeSigner$Family", name := "open", desc := "(I[BII)V" } : Jvm.MethodName) ({ cls := "HashTreeSigner$Family", name := "open", desc := "(I[BII)V" } : Jvm.MethodName)) ∈ vGW := vGW_at 806 (by decide +kernel) (by decide +kernel)
theorem mX10_68_X5 : vLU RX10 68 yX2_open yX2_open cX2_open 5 none 4 3 := ⟨_, "HashTreeSigner$Family", rfl, vw_803, vw_805, Or.inr ⟨_, _, _, vw_804, vw_808⟩, vw_806, vw_804, vw_3, vw_808, ⟨by decide +kernel, by decide +kernel⟩, by decide +kernel⟩
theorem vw_807 : (Jvm.Cond.selects "HashTreeSigner$ShakeFamily" ({ cls := "HashTreeSigner$Family", name := "open", desc := "(I[BII)V" } : Jvm.MethodName) ({ cls := "HashTreeSigner$Family", name := "open", desc := "(I[BII)V" } : Jvm.MethodName)) ∈ vGW := vGW_at 807 (by decide +kernel) (by decide +kernel)
theorem mX10_68_X7 : vLU RX10 68 yX2_open yX2_open cX2_open 5 none 4 5 := ⟨_, "HashTreeSigner$Family", rfl, vw_803, vw_805, Or.inr ⟨_, _, _, vw_804, vw_808⟩, vw_807, vw_804, vw_3, vw_808, ⟨by decide +kernel, by decide +kernel⟩, by decide +kernel⟩
theorem vw_1002 : (Jvm.Cond.methodLink "HashTreeSigner$Trees" (73 : Nat) ({ cls := "HashTreeSigner$Family", name := "randomize", desc := "([BI[BI[B)V" } : Jvm.MethodName)) ∈ vGW := vGW_at 1002 (by decide +kernel) (by decide +kernel)
theorem vw_1004 : (Jvm.Cond.sameMethod "HashTreeSigner$Family" "HashTreeSigner$Family" "randomize" "([BI[BI[B)V") ∈ vGW := vGW_at 1004 (by decide +kernel) (by decide +kernel)
theorem vw_1005 : (Jvm.Cond.selects "HashTreeSigner$Sha2Family" ({ cls := "HashTreeSigner$Family", name := "randomize", desc := "([BI[BI[B)V" } : Jvm.MethodName) ({ cls := "HashTreeSigner$Sha2Family", name := "randomize", desc := "([BI[BI[B)V" } : Jvm.MethodName)) ∈ vGW := vGW_at 1005 (by decide +kernel) (by decide +kernel)
theorem vw_1006 : (Jvm.Cond.instanceMethod ({ cls := "HashTreeSigner$Sha2Family", name := "randomize", desc := "([BI[BI[B)V" } : Jvm.MethodName)) ∈ vGW := vGW_at 1006 (by decide +kernel) (by decide +kernel)
set_option maxRecDepth 100000 in
theorem vw_1007 : (Jvm.Cond.code ({ cls := "HashTreeSigner$Sha2Family", name := "randomize", desc := "([BI[BI[B)V" } : Jvm.MethodName) prog_7_method_4_code (7 : Nat) (Option.none : Option Jvm.ClassFile.FieldType)) ∈ vGW := vGW_at 1007 rfl rfl
theorem mX10_73_X5 : vLU RX10 73 ({ cls := "HashTreeSigner$Family", name := "randomize", desc := "([BI[BI[B)V" } : Jvm.MethodName) yX5_randomize cX5_randomize 7 none 5 3 := ⟨_, "HashTreeSigner$Family", rfl, vw_1002, vw_1004, Or.inl (List.mem_of_getElem? (i := 10) rfl), vw_1005, vw_1006, vw_11, vw_1007, ⟨by decide +kernel, by decide +kernel⟩, by decide +kernel⟩
theorem vw_1016 : (Jvm.Cond.selects "HashTreeSigner$ShakeFamily" ({ cls := "HashTreeSigner$Family", name := "randomize", desc := "([BI[BI[B)V" } : Jvm.MethodName) ({ cls := "HashTreeSigner$ShakeFamily", name := "randomize", desc := "([BI[BI[B)V" } : Jvm.MethodName)) ∈ vGW := vGW_at 1016 (by decide +kernel) (by decide +kernel)
theorem vw_1017 : (Jvm.Cond.instanceMethod ({ cls := "HashTreeSigner$ShakeFamily", name := "randomize", desc := "([BI[BI[B)V" } : Jvm.MethodName)) ∈ vGW := vGW_at 1017 (by decide +kernel) (by decide +kernel)
set_option maxRecDepth 100000 in
theorem vw_1018 : (Jvm.Cond.code ({ cls := "HashTreeSigner$ShakeFamily", name := "randomize", desc := "([BI[BI[B)V" } : Jvm.MethodName) prog_9_method_4_code (6 : Nat) (Option.none : Option Jvm.ClassFile.FieldType)) ∈ vGW := vGW_at 1018 rfl rfl
theorem mX10_73_X7 : vLU RX10 73 ({ cls := "HashTreeSigner$Family", name := "randomize", desc := "([BI[BI[B)V" } : Jvm.MethodName) yX7_randomize cX7_randomize 6 none 5 5 := ⟨_, "HashTreeSigner$Family", rfl, vw_1002, vw_1004, Or.inl (List.mem_of_getElem? (i := 10) rfl), vw_1016, vw_1017, vw_4, vw_1018, ⟨by decide +kernel, by decide +kernel⟩, by decide +kernel⟩
theorem vw_1023 : (Jvm.Cond.methodLink "HashTreeSigner$Trees" (86 : Nat) ({ cls := "HashTreeSigner$Family", name := "digest", desc := "([B[BI[BI)V" } : Jvm.MethodName)) ∈ vGW := vGW_at 1023 (by decide +kernel) (by decide +kernel)
theorem vw_1025 : (Jvm.Cond.sameMethod "HashTreeSigner$Family" "HashTreeSigner$Family" "digest" "([B[BI[BI)V") ∈ vGW := vGW_at 1025 (by decide +kernel) (by decide +kernel)
theorem vw_1026 : (Jvm.Cond.selects "HashTreeSigner$Sha2Family" ({ cls := "HashTreeSigner$Family", name := "digest", desc := "([B[BI[BI)V" } : Jvm.MethodName) ({ cls := "HashTreeSigner$Sha2Family", name := "digest", desc := "([B[BI[BI)V" } : Jvm.MethodName)) ∈ vGW := vGW_at 1026 (by decide +kernel) (by decide +kernel)
theorem vw_1027 : (Jvm.Cond.instanceMethod ({ cls := "HashTreeSigner$Sha2Family", name := "digest", desc := "([B[BI[BI)V" } : Jvm.MethodName)) ∈ vGW := vGW_at 1027 (by decide +kernel) (by decide +kernel)
set_option maxRecDepth 100000 in
theorem vw_1028 : (Jvm.Cond.code ({ cls := "HashTreeSigner$Sha2Family", name := "digest", desc := "([B[BI[BI)V" } : Jvm.MethodName) prog_7_method_5_code (9 : Nat) (Option.none : Option Jvm.ClassFile.FieldType)) ∈ vGW := vGW_at 1028 rfl rfl
theorem mX10_86_X5 : vLU RX10 86 ({ cls := "HashTreeSigner$Family", name := "digest", desc := "([B[BI[BI)V" } : Jvm.MethodName) yX5_digest cX5_digest 9 none 5 3 := ⟨_, "HashTreeSigner$Family", rfl, vw_1023, vw_1025, Or.inl (List.mem_of_getElem? (i := 11) rfl), vw_1026, vw_1027, vw_11, vw_1028, ⟨by decide +kernel, by decide +kernel⟩, by decide +kernel⟩
theorem vw_1030 : (Jvm.Cond.selects "HashTreeSigner$ShakeFamily" ({ cls := "HashTreeSigner$Family", name := "digest", desc := "([B[BI[BI)V" } : Jvm.MethodName) ({ cls := "HashTreeSigner$ShakeFamily", name := "digest", desc := "([B[BI[BI)V" } : Jvm.MethodName)) ∈ vGW := vGW_at 1030 (by decide +kernel) (by decide +kernel)
theorem vw_1031 : (Jvm.Cond.instanceMethod ({ cls := "HashTreeSigner$ShakeFamily", name := "digest", desc := "([B[BI[BI)V" } : Jvm.MethodName)) ∈ vGW := vGW_at 1031 (by decide +kernel) (by decide +kernel)
set_option maxRecDepth 100000 in
theorem vw_1032 : (Jvm.Cond.code ({ cls := "HashTreeSigner$ShakeFamily", name := "digest", desc := "([B[BI[BI)V" } : Jvm.MethodName) prog_9_method_5_code (6 : Nat) (Option.none : Option Jvm.ClassFile.FieldType)) ∈ vGW := vGW_at 1032 rfl rfl
theorem mX10_86_X7 : vLU RX10 86 ({ cls := "HashTreeSigner$Family", name := "digest", desc := "([B[BI[BI)V" } : Jvm.MethodName) yX7_digest cX7_digest 6 none 5 5 := ⟨_, "HashTreeSigner$Family", rfl, vw_1023, vw_1025, Or.inl (List.mem_of_getElem? (i := 11) rfl), vw_1030, vw_1031, vw_4, vw_1032, ⟨by decide +kernel, by decide +kernel⟩, by decide +kernel⟩
theorem vw_1034 : (Jvm.Cond.methodLink "HashTreeSigner$Trees" (94 : Nat) ({ cls := "HashTreeSigner$Trees", name := "number", desc := "(II)J" } : Jvm.MethodName)) ∈ vGW := vGW_at 1034 (by decide +kernel) (by decide +kernel)
theorem vw_1036 : (Jvm.Cond.instanceMethod ({ cls := "HashTreeSigner$Trees", name := "number", desc := "(II)J" } : Jvm.MethodName)) ∈ vGW := vGW_at 1036 (by decide +kernel) (by decide +kernel)
theorem vs_13 : (Jvm.Cond.selects "HashTreeSigner$Trees" ({ cls := "HashTreeSigner$Trees", name := "number", desc := "(II)J" } : Jvm.MethodName) ({ cls := "HashTreeSigner$Trees", name := "number", desc := "(II)J" } : Jvm.MethodName)) ∈ vGW := vGW_sel 13 (by decide +kernel) (by decide +kernel)
set_option maxRecDepth 100000 in
theorem vw_1037 : (Jvm.Cond.code ({ cls := "HashTreeSigner$Trees", name := "number", desc := "(II)J" } : Jvm.MethodName) prog_12_method_15_code (6 : Nat) (Option.some Jvm.ClassFile.FieldType.long)) ∈ vGW := vGW_at 1037 rfl rfl
theorem mX10_94 : vLV RX10 94 yX10_number cX10_number 6 (some .long) 2 7 := ⟨⟨_, rfl, rfl⟩, Or.inl vw_1034, vw_1036, vs_13, vw_2, vw_1037, ⟨by decide +kernel, by decide +kernel⟩, by decide +kernel⟩
theorem vw_866 : (Jvm.Cond.methodLink "HashTreeSigner$Trees" (105 : Nat) ({ cls := "HashTreeSigner$Address", name := "place", desc := "(IJ)V" } : Jvm.MethodName)) ∈ vGW := vGW_at 866 (by decide +kernel) (by decide +kernel)
theorem vw_867 : (Jvm.Cond.instanceMethod ({ cls := "HashTreeSigner$Address", name := "place", desc := "(IJ)V" } : Jvm.MethodName)) ∈ vGW := vGW_at 867 (by decide +kernel) (by decide +kernel)
theorem vw_868 : (Jvm.Cond.selects "HashTreeSigner$Address" ({ cls := "HashTreeSigner$Address", name := "place", desc := "(IJ)V" } : Jvm.MethodName) ({ cls := "HashTreeSigner$Address", name := "place", desc := "(IJ)V" } : Jvm.MethodName)) ∈ vGW := vGW_at 868 (by decide +kernel) (by decide +kernel)
set_option maxRecDepth 100000 in
theorem vw_869 : (Jvm.Cond.code ({ cls := "HashTreeSigner$Address", name := "place", desc := "(IJ)V" } : Jvm.MethodName) prog_2_method_2_code (5 : Nat) (Option.none : Option Jvm.ClassFile.FieldType)) ∈ vGW := vGW_at 869 rfl rfl
theorem mX10_105 : vLV RX10 105 yX0_place cX0_place 5 none 2 0 := ⟨⟨_, rfl, rfl⟩, Or.inl vw_866, vw_867, vw_868, vw_5, vw_869, ⟨by decide +kernel, by decide +kernel⟩, by decide +kernel⟩
theorem vw_1042 : (Jvm.Cond.methodLink "HashTreeSigner$Trees" (109 : Nat) ({ cls := "HashTreeSigner$Trees", name := "enterForest", desc := "()V" } : Jvm.MethodName)) ∈ vGW := vGW_at 1042 (by decide +kernel) (by decide +kernel)
theorem vw_1044 : (Jvm.Cond.instanceMethod ({ cls := "HashTreeSigner$Trees", name := "enterForest", desc := "()V" } : Jvm.MethodName)) ∈ vGW := vGW_at 1044 (by decide +kernel) (by decide +kernel)
theorem vs_14 : (Jvm.Cond.selects "HashTreeSigner$Trees" ({ cls := "HashTreeSigner$Trees", name := "enterForest", desc := "()V" } : Jvm.MethodName) ({ cls := "HashTreeSigner$Trees", name := "enterForest", desc := "()V" } : Jvm.MethodName)) ∈ vGW := vGW_sel 14 (by decide +kernel) (by decide +kernel)
set_option maxRecDepth 100000 in
theorem vw_1045 : (Jvm.Cond.code ({ cls := "HashTreeSigner$Trees", name := "enterForest", desc := "()V" } : Jvm.MethodName) prog_12_method_13_code (1 : Nat) (Option.none : Option Jvm.ClassFile.FieldType)) ∈ vGW := vGW_at 1045 rfl rfl
theorem mX10_109 : vLV RX10 109 yX10_enterForest cX10_enterForest 1 none 0 7 := ⟨⟨_, rfl, rfl⟩, Or.inl vw_1042, vw_1044, vs_14, vw_2, vw_1045, ⟨by decide +kernel, by decide +kernel⟩, by decide +kernel⟩
theorem vw_1046 : (Jvm.Cond.methodLink "HashTreeSigner$Trees" (115 : Nat) ({ cls := "HashTreeSigner$Trees", name := "chosen", desc := "(I)I" } : Jvm.MethodName)) ∈ vGW := vGW_at 1046 (by decide +kernel) (by decide +kernel)
theorem vw_1048 : (Jvm.Cond.instanceMethod ({ cls := "HashTreeSigner$Trees", name := "chosen", desc := "(I)I" } : Jvm.MethodName)) ∈ vGW := vGW_at 1048 (by decide +kernel) (by decide +kernel)
theorem vs_15 : (Jvm.Cond.selects "HashTreeSigner$Trees" ({ cls := "HashTreeSigner$Trees", name := "chosen", desc := "(I)I" } : Jvm.MethodName) ({ cls := "HashTreeSigner$Trees", name := "chosen", desc := "(I)I" } : Jvm.MethodName)) ∈ vGW := vGW_sel 15 (by decide +kernel) (by decide +kernel)
set_option maxRecDepth 100000 in
theorem vw_1049 : (Jvm.Cond.code ({ cls := "HashTreeSigner$Trees", name := "chosen", desc := "(I)I" } : Jvm.MethodName) prog_12_method_14_code (4 : Nat) (Option.some Jvm.ClassFile.FieldType.int)) ∈ vGW := vGW_at 1049 rfl rfl
theorem mX10_115 : vLV RX10 115 yX10_chosen cX10_chosen 4 (some .int) 1 7 := ⟨⟨_, rfl, rfl⟩, Or.inl vw_1046, vw_1048, vs_15, vw_2, vw_1049, ⟨by decide +kernel, by decide +kernel⟩, by decide +kernel⟩
theorem vw_878 : (Jvm.Cond.methodLink "HashTreeSigner$Trees" (119 : Nat) ({ cls := "HashTreeSigner$Address", name := "name", desc := "(IIII)V" } : Jvm.MethodName)) ∈ vGW := vGW_at 878 (by decide +kernel) (by decide +kernel)
theorem mX10_119 : vLV RX10 119 yX0_name cX0_name 5 none 4 0 := ⟨⟨_, rfl, rfl⟩, Or.inl vw_878, vw_879, vw_880, vw_5, vw_881, ⟨by decide +kernel, by decide +kernel⟩, by decide +kernel⟩
theorem vw_886 : (Jvm.Cond.methodLink "HashTreeSigner$Trees" (126 : Nat) ({ cls := "HashTreeSigner$Family", name := "f", desc := "([BII[BI)V" } : Jvm.MethodName)) ∈ vGW := vGW_at 886 (by decide +kernel) (by decide +kernel)
theorem mX10_126_X5 : vLU RX10 126 ({ cls := "HashTreeSigner$Family", name := "f", desc := "([BII[BI)V" } : Jvm.MethodName) yX5_f cX5_f 7 none 5 3 := ⟨_, "HashTreeSigner$Family", rfl, vw_886, vw_888, Or.inl (List.mem_of_getElem? (i := 9) rfl), vw_889, vw_890, vw_11, vw_891, ⟨by decide +kernel, by decide +kernel⟩, by decide +kernel⟩
theorem mX10_126_X7 : vLU RX10 126 ({ cls := "HashTreeSigner$Family", name := "f", desc := "([BII[BI)V" } : Jvm.MethodName) yX7_f cX7_f 6 none 5 5 := ⟨_, "HashTreeSigner$Family", rfl, vw_886, vw_888, Or.inl (List.mem_of_getElem? (i := 9) rfl), vw_906, vw_907, vw_4, vw_908, ⟨by decide +kernel, by decide +kernel⟩, by decide +kernel⟩
theorem vw_1050 : (Jvm.Cond.methodLink "HashTreeSigner$Trees" (133 : Nat) ({ cls := "HashTreeSigner$Trees", name := "node", desc := "(II[BI)V" } : Jvm.MethodName)) ∈ vGW := vGW_at 1050 (by decide +kernel) (by decide +kernel)
theorem mX10_133 : vLV RX10 133 yX10_node cX10_node 8 none 4 7 := ⟨⟨_, rfl, rfl⟩, Or.inl vw_1050, vw_871, vw_872, vw_2, vw_873, ⟨by decide +kernel, by decide +kernel⟩, by decide +kernel⟩
theorem vw_1051 : (Jvm.Cond.methodLink "HashTreeSigner$Trees" (137 : Nat) ({ cls := "HashTreeSigner$Trees", name := "forestRoot", desc := "([BI)I" } : Jvm.MethodName)) ∈ vGW := vGW_at 1051 (by decide +kernel) (by decide +kernel)
theorem mX10_137 : vLV RX10 137 yX10_forestRoot cX10_forestRoot 6 (some .int) 2 7 := ⟨⟨_, rfl, rfl⟩, Or.inl vw_1051, vw_1052, vw_1053, vw_2, vw_1054, ⟨by decide +kernel, by decide +kernel⟩, by decide +kernel⟩
theorem vw_1055 : (Jvm.Cond.methodLink "HashTreeSigner$Trees" (141 : Nat) ({ cls := "HashTreeSigner$Trees", name := "climb", desc := "(II[BI[BI)V" } : Jvm.MethodName)) ∈ vGW := vGW_at 1055 (by decide +kernel) (by decide +kernel)
theorem vw_1057 : (Jvm.Cond.instanceMethod ({ cls := "HashTreeSigner$Trees", name := "climb", desc := "(II[BI[BI)V" } : Jvm.MethodName)) ∈ vGW := vGW_at 1057 (by decide +kernel) (by decide +kernel)
theorem vs_16 : (Jvm.Cond.selects "HashTreeSigner$Trees" ({ cls := "HashTreeSigner$Trees", name := "climb", desc := "(II[BI[BI)V" } : Jvm.MethodName) ({ cls := "HashTreeSigner$Trees", name := "climb", desc := "(II[BI[BI)V" } : Jvm.MethodName)) ∈ vGW := vGW_sel 16 (by decide +kernel) (by decide +kernel)
set_option maxRecDepth 100000 in
theorem vw_1058 : (Jvm.Cond.code ({ cls := "HashTreeSigner$Trees", name := "climb", desc := "(II[BI[BI)V" } : Jvm.MethodName) prog_12_method_11_code (10 : Nat) (Option.none : Option Jvm.ClassFile.FieldType)) ∈ vGW := vGW_at 1058 rfl rfl
theorem mX10_141 : vLV RX10 141 yX10_climb cX10_climb 10 none 6 7 := ⟨⟨_, rfl, rfl⟩, Or.inl vw_1055, vw_1057, vs_16, vw_2, vw_1058, ⟨by decide +kernel, by decide +kernel⟩, by decide +kernel⟩
theorem vw_1063 : (Jvm.Cond.methodLink "HashTreeSigner$Trees" (145 : Nat) ({ cls := "HashTreeSigner$Trees", name := "enterLayer", desc := "(IJ)V" } : Jvm.MethodName)) ∈ vGW := vGW_at 1063 (by decide +kernel) (by decide +kernel)
theorem mX10_145 : vLV RX10 145 yX10_enterLayer cX10_enterLayer 4 none 2 7 := ⟨⟨_, rfl, rfl⟩, Or.inl vw_1063, vw_863, vw_864, vw_2, vw_865, ⟨by decide +kernel, by decide +kernel⟩, by decide +kernel⟩
theorem vw_1064 : (Jvm.Cond.methodLink "HashTreeSigner$Trees" (148 : Nat) ({ cls := "HashTreeSigner$Chains", name := "setDigits", desc := "([B)V" } : Jvm.MethodName)) ∈ vGW := vGW_at 1064 (by decide +kernel) (by decide +kernel)
theorem vw_1065 : (Jvm.Cond.instanceMethod ({ cls := "HashTreeSigner$Chains", name := "setDigits", desc := "([B)V" } : Jvm.MethodName)) ∈ vGW := vGW_at 1065 (by decide +kernel) (by decide +kernel)
theorem vw_1066 : (Jvm.Cond.selects "HashTreeSigner$Chains" ({ cls := "HashTreeSigner$Chains", name := "setDigits", desc := "([B)V" } : Jvm.MethodName) ({ cls := "HashTreeSigner$Chains", name := "setDigits", desc := "([B)V" } : Jvm.MethodName)) ∈ vGW := vGW_at 1066 (by decide +kernel) (by decide +kernel)
set_option maxRecDepth 100000 in
theorem vw_1067 : (Jvm.Cond.code ({ cls := "HashTreeSigner$Chains", name := "setDigits", desc := "([B)V" } : Jvm.MethodName) prog_3_method_3_code (4 : Nat) (Option.none : Option Jvm.ClassFile.FieldType)) ∈ vGW := vGW_at 1067 rfl rfl
theorem mX10_148 : vLV RX10 148 yX1_setDigits cX1_setDigits 4 none 1 1 := ⟨⟨_, rfl, rfl⟩, Or.inl vw_1064, vw_1065, vw_1066, vw_9, vw_1067, ⟨by decide +kernel, by decide +kernel⟩, by decide +kernel⟩
theorem vw_937 : (Jvm.Cond.methodLink "HashTreeSigner$Trees" (152 : Nat) ({ cls := "HashTreeSigner$Chains", name := "begin", desc := "(I[BI)V" } : Jvm.MethodName)) ∈ vGW := vGW_at 937 (by decide +kernel) (by decide +kernel)
theorem vw_938 : (Jvm.Cond.instanceMethod ({ cls := "HashTreeSigner$Chains", name := "begin", desc := "(I[BI)V" } : Jvm.MethodName)) ∈ vGW := vGW_at 938 (by decide +kernel) (by decide +kernel)
theorem vw_939 : (Jvm.Cond.selects "HashTreeSigner$Chains" ({ cls := "HashTreeSigner$Chains", name := "begin", desc := "(I[BI)V" } : Jvm.MethodName) ({ cls := "HashTreeSigner$Chains", name := "begin", desc := "(I[BI)V" } : Jvm.MethodName)) ∈ vGW := vGW_at 939 (by decide +kernel) (by decide +kernel)
set_option maxRecDepth 100000 in
theorem vw_940 : (Jvm.Cond.code ({ cls := "HashTreeSigner$Chains", name := "begin", desc := "(I[BI)V" } : Jvm.MethodName) prog_3_method_4_code (5 : Nat) (Option.none : Option Jvm.ClassFile.FieldType)) ∈ vGW := vGW_at 940 rfl rfl
theorem mX10_152 : vLV RX10 152 yX1_begin cX1_begin 5 none 3 1 := ⟨⟨_, rfl, rfl⟩, Or.inl vw_937, vw_938, vw_939, vw_9, vw_940, ⟨by decide +kernel, by decide +kernel⟩, by decide +kernel⟩
theorem vw_943 : (Jvm.Cond.methodLink "HashTreeSigner$Trees" (163 : Nat) ({ cls := "HashTreeSigner$Chains", name := "walk", desc := "(I[I[I[BI)V" } : Jvm.MethodName)) ∈ vGW := vGW_at 943 (by decide +kernel) (by decide +kernel)
theorem vw_944 : (Jvm.Cond.instanceMethod ({ cls := "HashTreeSigner$Chains", name := "walk", desc := "(I[I[I[BI)V" } : Jvm.MethodName)) ∈ vGW := vGW_at 944 (by decide +kernel) (by decide +kernel)
theorem vw_945 : (Jvm.Cond.selects "HashTreeSigner$Chains" ({ cls := "HashTreeSigner$Chains", name := "walk", desc := "(I[I[I[BI)V" } : Jvm.MethodName) ({ cls := "HashTreeSigner$Chains", name := "walk", desc := "(I[I[I[BI)V" } : Jvm.MethodName)) ∈ vGW := vGW_at 945 (by decide +kernel) (by decide +kernel)
set_option maxRecDepth 100000 in
theorem vw_946 : (Jvm.Cond.code ({ cls := "HashTreeSigner$Chains", name := "walk", desc := "(I[I[I[BI)V" } : Jvm.MethodName) prog_3_method_5_code (9 : Nat) (Option.none : Option Jvm.ClassFile.FieldType)) ∈ vGW := vGW_at 946 rfl rfl
theorem mX10_163 : vLV RX10 163 yX1_walk cX1_walk 9 none 5 1 := ⟨⟨_, rfl, rfl⟩, Or.inl vw_943, vw_944, vw_945, vw_9, vw_946, ⟨by decide +kernel, by decide +kernel⟩, by decide +kernel⟩
theorem vw_1068 : (Jvm.Cond.methodLink "HashTreeSigner$Trees" (169 : Nat) ({ cls := "HashTreeSigner$Trees", name := "layerRoot", desc := "(I[BI)I" } : Jvm.MethodName)) ∈ vGW := vGW_at 1068 (by decide +kernel) (by decide +kernel)
theorem mX10_169 : vLV RX10 169 yX10_layerRoot cX10_layerRoot 5 (some .int) 3 7 := ⟨⟨_, rfl, rfl⟩, Or.inl vw_1068, vw_1069, vw_1070, vw_2, vw_1071, ⟨by decide +kernel, by decide +kernel⟩, by decide +kernel⟩
theorem vw_951 : (Jvm.Cond.methodLink "HashTreeSigner$Trees" (185 : Nat) ({ cls := "HashTreeSigner$Chains", name := "close", desc := "(I[BI)V" } : Jvm.MethodName)) ∈ vGW := vGW_at 951 (by decide +kernel) (by decide +kernel)
theorem vw_952 : (Jvm.Cond.instanceMethod ({ cls := "HashTreeSigner$Chains", name := "close", desc := "(I[BI)V" } : Jvm.MethodName)) ∈ vGW := vGW_at 952 (by decide +kernel) (by decide +kernel)
theorem vw_953 : (Jvm.Cond.selects "HashTreeSigner$Chains" ({ cls := "HashTreeSigner$Chains", name := "close", desc := "(I[BI)V" } : Jvm.MethodName) ({ cls := "HashTreeSigner$Chains", name := "close", desc := "(I[BI)V" } : Jvm.MethodName)) ∈ vGW := vGW_at 953 (by decide +kernel) (by decide +kernel)
set_option maxRecDepth 100000 in
theorem vw_954 : (Jvm.Cond.code ({ cls := "HashTreeSigner$Chains", name := "close", desc := "(I[BI)V" } : Jvm.MethodName) prog_3_method_6_code (4 : Nat) (Option.none : Option Jvm.ClassFile.FieldType)) ∈ vGW := vGW_at 954 rfl rfl
theorem mX10_185 : vLV RX10 185 yX1_close cX1_close 4 none 3 1 := ⟨⟨_, rfl, rfl⟩, Or.inl vw_951, vw_952, vw_953, vw_9, vw_954, ⟨by decide +kernel, by decide +kernel⟩, by decide +kernel⟩
theorem vw_874 : (Jvm.Cond.methodLink "HashTreeSigner$Trees" (188 : Nat) ({ cls := "HashTreeSigner$Trees", name := "forestLeaf", desc := "(II)V" } : Jvm.MethodName)) ∈ vGW := vGW_at 874 (by decide +kernel) (by decide +kernel)
theorem vw_876 : (Jvm.Cond.instanceMethod ({ cls := "HashTreeSigner$Trees", name := "forestLeaf", desc := "(II)V" } : Jvm.MethodName)) ∈ vGW := vGW_at 876 (by decide +kernel) (by decide +kernel)
theorem vs_5 : (Jvm.Cond.selects "HashTreeSigner$Trees" ({ cls := "HashTreeSigner$Trees", name := "forestLeaf", desc := "(II)V" } : Jvm.MethodName) ({ cls := "HashTreeSigner$Trees", name := "forestLeaf", desc := "(II)V" } : Jvm.MethodName)) ∈ vGW := vGW_sel 5 (by decide +kernel) (by decide +kernel)
set_option maxRecDepth 100000 in
theorem vw_877 : (Jvm.Cond.code ({ cls := "HashTreeSigner$Trees", name := "forestLeaf", desc := "(II)V" } : Jvm.MethodName) prog_12_method_12_code (3 : Nat) (Option.none : Option Jvm.ClassFile.FieldType)) ∈ vGW := vGW_at 877 rfl rfl
theorem mX10_188 : vLV RX10 188 yX10_forestLeaf cX10_forestLeaf 3 none 2 7 := ⟨⟨_, rfl, rfl⟩, Or.inl vw_874, vw_876, vs_5, vw_2, vw_877, ⟨by decide +kernel, by decide +kernel⟩, by decide +kernel⟩
theorem vw_325 : (Jvm.Cond.methodLink "HashTreeSignerLaw" (7 : Nat) ({ cls := "HashTreeSigner", name := "feed", desc := "(IIIII)I" } : Jvm.MethodName)) ∈ vGW := vGW_at 325 (by decide +kernel) (by decide +kernel)
theorem vw_326 : (Jvm.Cond.instanceMethod ({ cls := "HashTreeSigner", name := "feed", desc := "(IIIII)I" } : Jvm.MethodName)) ∈ vGW := vGW_at 326 (by decide +kernel) (by decide +kernel)
theorem vw_327 : (Jvm.Cond.selects "HashTreeSigner" ({ cls := "HashTreeSigner", name := "feed", desc := "(IIIII)I" } : Jvm.MethodName) ({ cls := "HashTreeSigner", name := "feed", desc := "(IIIII)I" } : Jvm.MethodName)) ∈ vGW := vGW_at 327 (by decide +kernel) (by decide +kernel)
set_option maxRecDepth 100000 in
theorem vw_328 : (Jvm.Cond.code ({ cls := "HashTreeSigner", name := "feed", desc := "(IIIII)I" } : Jvm.MethodName) prog_1_method_2_code (6 : Nat) (Option.some Jvm.ClassFile.FieldType.int)) ∈ vGW := vGW_at 328 rfl rfl
theorem mL_7 : vLV RL 7 yX11_feed cX11_feed 6 (some .int) 5 8 := ⟨⟨_, rfl, rfl⟩, Or.inl vw_325, vw_326, vw_327, vw_1, vw_328, ⟨by decide +kernel, by decide +kernel⟩, by decide +kernel⟩
theorem vw_407 : (Jvm.Cond.methodLink "HashTreeSignerLaw" (15 : Nat) ({ cls := "HashTreeSigner", name := "end", desc := "(II)I" } : Jvm.MethodName)) ∈ vGW := vGW_at 407 (by decide +kernel) (by decide +kernel)
theorem vw_408 : (Jvm.Cond.instanceMethod ({ cls := "HashTreeSigner", name := "end", desc := "(II)I" } : Jvm.MethodName)) ∈ vGW := vGW_at 408 (by decide +kernel) (by decide +kernel)
theorem vw_409 : (Jvm.Cond.selects "HashTreeSigner" ({ cls := "HashTreeSigner", name := "end", desc := "(II)I" } : Jvm.MethodName) ({ cls := "HashTreeSigner", name := "end", desc := "(II)I" } : Jvm.MethodName)) ∈ vGW := vGW_at 409 (by decide +kernel) (by decide +kernel)
set_option maxRecDepth 100000 in
theorem vw_410 : (Jvm.Cond.code ({ cls := "HashTreeSigner", name := "end", desc := "(II)I" } : Jvm.MethodName) prog_1_method_3_code (3 : Nat) (Option.some Jvm.ClassFile.FieldType.int)) ∈ vGW := vGW_at 410 rfl rfl
theorem mL_15 : vLV RL 15 yX11_end cX11_end 3 (some .int) 2 8 := ⟨⟨_, rfl, rfl⟩, Or.inl vw_407, vw_408, vw_409, vw_1, vw_410, ⟨by decide +kernel, by decide +kernel⟩, by decide +kernel⟩
theorem vw_445 : (Jvm.Cond.methodLink "HashTreeSignerLaw" (21 : Nat) ({ cls := "HashTreeSigner", name := "copy", desc := "(II)I" } : Jvm.MethodName)) ∈ vGW := vGW_at 445 (by decide +kernel) (by decide +kernel)
theorem vw_446 : (Jvm.Cond.instanceMethod ({ cls := "HashTreeSigner", name := "copy", desc := "(II)I" } : Jvm.MethodName)) ∈ vGW := vGW_at 446 (by decide +kernel) (by decide +kernel)
theorem vw_447 : (Jvm.Cond.selects "HashTreeSigner" ({ cls := "HashTreeSigner", name := "copy", desc := "(II)I" } : Jvm.MethodName) ({ cls := "HashTreeSigner", name := "copy", desc := "(II)I" } : Jvm.MethodName)) ∈ vGW := vGW_at 447 (by decide +kernel) (by decide +kernel)
set_option maxRecDepth 100000 in
theorem vw_448 : (Jvm.Cond.code ({ cls := "HashTreeSigner", name := "copy", desc := "(II)I" } : Jvm.MethodName) prog_1_method_4_code (3 : Nat) (Option.some Jvm.ClassFile.FieldType.int)) ∈ vGW := vGW_at 448 rfl rfl
theorem mL_21 : vLV RL 21 yX11_copy cX11_copy 3 (some .int) 2 8 := ⟨⟨_, rfl, rfl⟩, Or.inl vw_445, vw_446, vw_447, vw_1, vw_448, ⟨by decide +kernel, by decide +kernel⟩, by decide +kernel⟩
theorem vw_452 : (Jvm.Cond.methodLink "HashTreeSignerLaw" (24 : Nat) ({ cls := "HashTreeSigner", name := "resize", desc := "(II)I" } : Jvm.MethodName)) ∈ vGW := vGW_at 452 (by decide +kernel) (by decide +kernel)
theorem vw_453 : (Jvm.Cond.instanceMethod ({ cls := "HashTreeSigner", name := "resize", desc := "(II)I" } : Jvm.MethodName)) ∈ vGW := vGW_at 453 (by decide +kernel) (by decide +kernel)
theorem vw_454 : (Jvm.Cond.selects "HashTreeSigner" ({ cls := "HashTreeSigner", name := "resize", desc := "(II)I" } : Jvm.MethodName) ({ cls := "HashTreeSigner", name := "resize", desc := "(II)I" } : Jvm.MethodName)) ∈ vGW := vGW_at 454 (by decide +kernel) (by decide +kernel)
set_option maxRecDepth 100000 in
theorem vw_455 : (Jvm.Cond.code ({ cls := "HashTreeSigner", name := "resize", desc := "(II)I" } : Jvm.MethodName) prog_1_method_5_code (4 : Nat) (Option.some Jvm.ClassFile.FieldType.int)) ∈ vGW := vGW_at 455 rfl rfl
theorem mL_24 : vLV RL 24 yX11_resize cX11_resize 4 (some .int) 2 8 := ⟨⟨_, rfl, rfl⟩, Or.inl vw_452, vw_453, vw_454, vw_1, vw_455, ⟨by decide +kernel, by decide +kernel⟩, by decide +kernel⟩
theorem vw_724 : (Jvm.Cond.methodLink "HashTreeSignerLaw" (27 : Nat) ({ cls := "HashTreeSigner", name := "alter", desc := "(III)I" } : Jvm.MethodName)) ∈ vGW := vGW_at 724 (by decide +kernel) (by decide +kernel)
theorem vw_725 : (Jvm.Cond.instanceMethod ({ cls := "HashTreeSigner", name := "alter", desc := "(III)I" } : Jvm.MethodName)) ∈ vGW := vGW_at 725 (by decide +kernel) (by decide +kernel)
theorem vw_726 : (Jvm.Cond.selects "HashTreeSigner" ({ cls := "HashTreeSigner", name := "alter", desc := "(III)I" } : Jvm.MethodName) ({ cls := "HashTreeSigner", name := "alter", desc := "(III)I" } : Jvm.MethodName)) ∈ vGW := vGW_at 726 (by decide +kernel) (by decide +kernel)
set_option maxRecDepth 100000 in
theorem vw_727 : (Jvm.Cond.code ({ cls := "HashTreeSigner", name := "alter", desc := "(III)I" } : Jvm.MethodName) prog_1_method_6_code (4 : Nat) (Option.some Jvm.ClassFile.FieldType.int)) ∈ vGW := vGW_at 727 rfl rfl
theorem mL_27 : vLV RL 27 yX11_alter cX11_alter 4 (some .int) 3 8 := ⟨⟨_, rfl, rfl⟩, Or.inl vw_724, vw_725, vw_726, vw_1, vw_727, ⟨by decide +kernel, by decide +kernel⟩, by decide +kernel⟩
theorem vw_737 : (Jvm.Cond.methodLink "HashTreeSignerLaw" (31 : Nat) ({ cls := "HashTreeSigner", name := "length", desc := "(I)I" } : Jvm.MethodName)) ∈ vGW := vGW_at 737 (by decide +kernel) (by decide +kernel)
theorem vw_738 : (Jvm.Cond.instanceMethod ({ cls := "HashTreeSigner", name := "length", desc := "(I)I" } : Jvm.MethodName)) ∈ vGW := vGW_at 738 (by decide +kernel) (by decide +kernel)
theorem vw_739 : (Jvm.Cond.selects "HashTreeSigner" ({ cls := "HashTreeSigner", name := "length", desc := "(I)I" } : Jvm.MethodName) ({ cls := "HashTreeSigner", name := "length", desc := "(I)I" } : Jvm.MethodName)) ∈ vGW := vGW_at 739 (by decide +kernel) (by decide +kernel)
set_option maxRecDepth 100000 in
theorem vw_740 : (Jvm.Cond.code ({ cls := "HashTreeSigner", name := "length", desc := "(I)I" } : Jvm.MethodName) prog_1_method_7_code (2 : Nat) (Option.some Jvm.ClassFile.FieldType.int)) ∈ vGW := vGW_at 740 rfl rfl
theorem mL_31 : vLV RL 31 yX11_length cX11_length 2 (some .int) 1 8 := ⟨⟨_, rfl, rfl⟩, Or.inl vw_737, vw_738, vw_739, vw_1, vw_740, ⟨by decide +kernel, by decide +kernel⟩, by decide +kernel⟩
theorem vw_744 : (Jvm.Cond.methodLink "HashTreeSignerLaw" (35 : Nat) ({ cls := "HashTreeSigner", name := "word", desc := "(II)J" } : Jvm.MethodName)) ∈ vGW := vGW_at 744 (by decide +kernel) (by decide +kernel)
theorem vw_745 : (Jvm.Cond.instanceMethod ({ cls := "HashTreeSigner", name := "word", desc := "(II)J" } : Jvm.MethodName)) ∈ vGW := vGW_at 745 (by decide +kernel) (by decide +kernel)
theorem vw_746 : (Jvm.Cond.selects "HashTreeSigner" ({ cls := "HashTreeSigner", name := "word", desc := "(II)J" } : Jvm.MethodName) ({ cls := "HashTreeSigner", name := "word", desc := "(II)J" } : Jvm.MethodName)) ∈ vGW := vGW_at 746 (by decide +kernel) (by decide +kernel)
set_option maxRecDepth 100000 in
theorem vw_747 : (Jvm.Cond.code ({ cls := "HashTreeSigner", name := "word", desc := "(II)J" } : Jvm.MethodName) prog_1_method_8_code (6 : Nat) (Option.some Jvm.ClassFile.FieldType.long)) ∈ vGW := vGW_at 747 rfl rfl
theorem mL_35 : vLV RL 35 yX11_word cX11_word 6 (some .long) 2 8 := ⟨⟨_, rfl, rfl⟩, Or.inl vw_744, vw_745, vw_746, vw_1, vw_747, ⟨by decide +kernel, by decide +kernel⟩, by decide +kernel⟩
theorem vw_751 : (Jvm.Cond.methodLink "HashTreeSignerLaw" (39 : Nat) ({ cls := "HashTreeSigner", name := "same", desc := "(II)Z" } : Jvm.MethodName)) ∈ vGW := vGW_at 751 (by decide +kernel) (by decide +kernel)
theorem vw_752 : (Jvm.Cond.instanceMethod ({ cls := "HashTreeSigner", name := "same", desc := "(II)Z" } : Jvm.MethodName)) ∈ vGW := vGW_at 752 (by decide +kernel) (by decide +kernel)
theorem vw_753 : (Jvm.Cond.selects "HashTreeSigner" ({ cls := "HashTreeSigner", name := "same", desc := "(II)Z" } : Jvm.MethodName) ({ cls := "HashTreeSigner", name := "same", desc := "(II)Z" } : Jvm.MethodName)) ∈ vGW := vGW_at 753 (by decide +kernel) (by decide +kernel)
set_option maxRecDepth 100000 in
theorem vw_754 : (Jvm.Cond.code ({ cls := "HashTreeSigner", name := "same", desc := "(II)Z" } : Jvm.MethodName) prog_1_method_9_code (3 : Nat) (Option.some Jvm.ClassFile.FieldType.boolean)) ∈ vGW := vGW_at 754 rfl rfl
theorem mL_39 : vLV RL 39 yX11_same cX11_same 3 (some .boolean) 2 8 := ⟨⟨_, rfl, rfl⟩, Or.inl vw_751, vw_752, vw_753, vw_1, vw_754, ⟨by decide +kernel, by decide +kernel⟩, by decide +kernel⟩
theorem vw_762 : (Jvm.Cond.methodLink "HashTreeSignerLaw" (43 : Nat) ({ cls := "HashTreeSigner", name := "slhKeys", desc := "(I)I" } : Jvm.MethodName)) ∈ vGW := vGW_at 762 (by decide +kernel) (by decide +kernel)
theorem vw_763 : (Jvm.Cond.instanceMethod ({ cls := "HashTreeSigner", name := "slhKeys", desc := "(I)I" } : Jvm.MethodName)) ∈ vGW := vGW_at 763 (by decide +kernel) (by decide +kernel)
theorem vw_764 : (Jvm.Cond.selects "HashTreeSigner" ({ cls := "HashTreeSigner", name := "slhKeys", desc := "(I)I" } : Jvm.MethodName) ({ cls := "HashTreeSigner", name := "slhKeys", desc := "(I)I" } : Jvm.MethodName)) ∈ vGW := vGW_at 764 (by decide +kernel) (by decide +kernel)
set_option maxRecDepth 100000 in
theorem vw_765 : (Jvm.Cond.code ({ cls := "HashTreeSigner", name := "slhKeys", desc := "(I)I" } : Jvm.MethodName) prog_1_method_10_code (5 : Nat) (Option.some Jvm.ClassFile.FieldType.int)) ∈ vGW := vGW_at 765 rfl rfl
theorem mL_43 : vLV RL 43 yX11_slhKeys cX11_slhKeys 5 (some .int) 1 8 := ⟨⟨_, rfl, rfl⟩, Or.inl vw_762, vw_763, vw_764, vw_1, vw_765, ⟨by decide +kernel, by decide +kernel⟩, by decide +kernel⟩
theorem vw_960 : (Jvm.Cond.methodLink "HashTreeSignerLaw" (48 : Nat) ({ cls := "HashTreeSigner", name := "slhSign", desc := "(II)I" } : Jvm.MethodName)) ∈ vGW := vGW_at 960 (by decide +kernel) (by decide +kernel)
theorem vw_961 : (Jvm.Cond.instanceMethod ({ cls := "HashTreeSigner", name := "slhSign", desc := "(II)I" } : Jvm.MethodName)) ∈ vGW := vGW_at 961 (by decide +kernel) (by decide +kernel)
theorem vw_962 : (Jvm.Cond.selects "HashTreeSigner" ({ cls := "HashTreeSigner", name := "slhSign", desc := "(II)I" } : Jvm.MethodName) ({ cls := "HashTreeSigner", name := "slhSign", desc := "(II)I" } : Jvm.MethodName)) ∈ vGW := vGW_at 962 (by decide +kernel) (by decide +kernel)
set_option maxRecDepth 100000 in
theorem vw_963 : (Jvm.Cond.code ({ cls := "HashTreeSigner", name := "slhSign", desc := "(II)I" } : Jvm.MethodName) prog_1_method_11_code (8 : Nat) (Option.some Jvm.ClassFile.FieldType.int)) ∈ vGW := vGW_at 963 rfl rfl
theorem mL_48 : vLV RL 48 yX11_slhSign cX11_slhSign 8 (some .int) 2 8 := ⟨⟨_, rfl, rfl⟩, Or.inl vw_960, vw_961, vw_962, vw_1, vw_963, ⟨by decide +kernel, by decide +kernel⟩, by decide +kernel⟩
theorem vw_1075 : (Jvm.Cond.methodLink "HashTreeSignerLaw" (53 : Nat) ({ cls := "HashTreeSigner", name := "slhVerify", desc := "(II)Z" } : Jvm.MethodName)) ∈ vGW := vGW_at 1075 (by decide +kernel) (by decide +kernel)
theorem vw_1076 : (Jvm.Cond.instanceMethod ({ cls := "HashTreeSigner", name := "slhVerify", desc := "(II)Z" } : Jvm.MethodName)) ∈ vGW := vGW_at 1076 (by decide +kernel) (by decide +kernel)
theorem vw_1077 : (Jvm.Cond.selects "HashTreeSigner" ({ cls := "HashTreeSigner", name := "slhVerify", desc := "(II)Z" } : Jvm.MethodName) ({ cls := "HashTreeSigner", name := "slhVerify", desc := "(II)Z" } : Jvm.MethodName)) ∈ vGW := vGW_at 1077 (by decide +kernel) (by decide +kernel)
set_option maxRecDepth 100000 in
theorem vw_1078 : (Jvm.Cond.code ({ cls := "HashTreeSigner", name := "slhVerify", desc := "(II)Z" } : Jvm.MethodName) prog_1_method_12_code (9 : Nat) (Option.some Jvm.ClassFile.FieldType.boolean)) ∈ vGW := vGW_at 1078 rfl rfl
theorem mL_53 : vLV RL 53 yX11_slhVerify cX11_slhVerify 9 (some .boolean) 2 8 := ⟨⟨_, rfl, rfl⟩, Or.inl vw_1075, vw_1076, vw_1077, vw_1, vw_1078, ⟨by decide +kernel, by decide +kernel⟩, by decide +kernel⟩
theorem vw_1085 : (Jvm.Cond.methodLink "HashTreeSignerLaw" (56 : Nat) ({ cls := "HashTreeSigner", name := "slhNode", desc := "(IIIII)I" } : Jvm.MethodName)) ∈ vGW := vGW_at 1085 (by decide +kernel) (by decide +kernel)
theorem vw_1086 : (Jvm.Cond.instanceMethod ({ cls := "HashTreeSigner", name := "slhNode", desc := "(IIIII)I" } : Jvm.MethodName)) ∈ vGW := vGW_at 1086 (by decide +kernel) (by decide +kernel)
theorem vw_1087 : (Jvm.Cond.selects "HashTreeSigner" ({ cls := "HashTreeSigner", name := "slhNode", desc := "(IIIII)I" } : Jvm.MethodName) ({ cls := "HashTreeSigner", name := "slhNode", desc := "(IIIII)I" } : Jvm.MethodName)) ∈ vGW := vGW_at 1087 (by decide +kernel) (by decide +kernel)
set_option maxRecDepth 100000 in
theorem vw_1088 : (Jvm.Cond.code ({ cls := "HashTreeSigner", name := "slhNode", desc := "(IIIII)I" } : Jvm.MethodName) prog_1_method_13_code (8 : Nat) (Option.some Jvm.ClassFile.FieldType.int)) ∈ vGW := vGW_at 1088 rfl rfl
theorem mL_56 : vLV RL 56 yX11_slhNode cX11_slhNode 8 (some .int) 5 8 := ⟨⟨_, rfl, rfl⟩, Or.inl vw_1085, vw_1086, vw_1087, vw_1, vw_1088, ⟨by decide +kernel, by decide +kernel⟩, by decide +kernel⟩
theorem vw_37 : (Jvm.Cond.methodLink "HashTreeSignerLaw" (59 : Nat) ({ cls := "HashTreeSigner", name := "<init>", desc := "()V" } : Jvm.MethodName)) ∈ vGW := vGW_at 37 (by decide +kernel) (by decide +kernel)
theorem vw_38 : (Jvm.Cond.instanceMethod ({ cls := "HashTreeSigner", name := "<init>", desc := "()V" } : Jvm.MethodName)) ∈ vGW := vGW_at 38 (by decide +kernel) (by decide +kernel)
set_option maxRecDepth 100000 in
theorem vw_39 : (Jvm.Cond.code ({ cls := "HashTreeSigner", name := "<init>", desc := "()V" } : Jvm.MethodName) prog_1_method_1_code (1 : Nat) (Option.none : Option Jvm.ClassFile.FieldType)) ∈ vGW := vGW_at 39 rfl rfl
theorem mL_59 : vLI RL 59 yX11_init cX11_init 1 0 := ⟨Or.inl vw_37, vw_38, vw_1, vw_39, rfl, ⟨by decide +kernel, by decide +kernel⟩, by decide +kernel⟩
theorem vw_1093 : (Jvm.Cond.methodLink "HashTreeSignerLaw" (62 : Nat) ({ cls := "HashTreeSignerModel", name := "<init>", desc := "()V" } : Jvm.MethodName)) ∈ vGW := vGW_at 1093 (by decide +kernel) (by decide +kernel)
theorem vw_1094 : (Jvm.Cond.instanceMethod ({ cls := "HashTreeSignerModel", name := "<init>", desc := "()V" } : Jvm.MethodName)) ∈ vGW := vGW_at 1094 (by decide +kernel) (by decide +kernel)
theorem vw_15 : (Jvm.Cond.initialized "HashTreeSignerModel") ∈ vGW := vGW_at 15 (by decide +kernel) (by decide +kernel)
set_option maxRecDepth 100000 in
theorem vw_1095 : (Jvm.Cond.code ({ cls := "HashTreeSignerModel", name := "<init>", desc := "()V" } : Jvm.MethodName) prog_14_method_1_code (1 : Nat) (Option.none : Option Jvm.ClassFile.FieldType)) ∈ vGW := vGW_at 1095 rfl rfl
theorem mL_62 : vLI RL 62 yX12_init cX12_init 1 0 := ⟨Or.inl vw_1093, vw_1094, vw_15, vw_1095, rfl, ⟨by decide +kernel, by decide +kernel⟩, by decide +kernel⟩
theorem vw_1326 : (Jvm.Cond.methodLink "HashTreeSignerLaw" (68 : Nat) ({ cls := "HashTreeSignerModel", name := "feed", desc := "(IIIII)I" } : Jvm.MethodName)) ∈ vGW := vGW_at 1326 (by decide +kernel) (by decide +kernel)
theorem vw_1327 : (Jvm.Cond.instanceMethod ({ cls := "HashTreeSignerModel", name := "feed", desc := "(IIIII)I" } : Jvm.MethodName)) ∈ vGW := vGW_at 1327 (by decide +kernel) (by decide +kernel)
theorem vw_1328 : (Jvm.Cond.selects "HashTreeSignerModel" ({ cls := "HashTreeSignerModel", name := "feed", desc := "(IIIII)I" } : Jvm.MethodName) ({ cls := "HashTreeSignerModel", name := "feed", desc := "(IIIII)I" } : Jvm.MethodName)) ∈ vGW := vGW_at 1328 (by decide +kernel) (by decide +kernel)
set_option maxRecDepth 100000 in
theorem vw_1329 : (Jvm.Cond.code ({ cls := "HashTreeSignerModel", name := "feed", desc := "(IIIII)I" } : Jvm.MethodName) prog_14_method_5_code (6 : Nat) (Option.some Jvm.ClassFile.FieldType.int)) ∈ vGW := vGW_at 1329 rfl rfl
theorem mL_68 : vLV RL 68 yX12_feed cX12_feed 6 (some .int) 5 9 := ⟨⟨_, rfl, rfl⟩, Or.inl vw_1326, vw_1327, vw_1328, vw_15, vw_1329, ⟨by decide +kernel, by decide +kernel⟩, by decide +kernel⟩
theorem vw_1322 : (Jvm.Cond.methodLink "HashTreeSignerLaw" (69 : Nat) ({ cls := "HashTreeSignerModel", name := "thrown", desc := "()I" } : Jvm.MethodName)) ∈ vGW := vGW_at 1322 (by decide +kernel) (by decide +kernel)
theorem vw_1323 : (Jvm.Cond.instanceMethod ({ cls := "HashTreeSignerModel", name := "thrown", desc := "()I" } : Jvm.MethodName)) ∈ vGW := vGW_at 1323 (by decide +kernel) (by decide +kernel)
theorem vw_1324 : (Jvm.Cond.selects "HashTreeSignerModel" ({ cls := "HashTreeSignerModel", name := "thrown", desc := "()I" } : Jvm.MethodName) ({ cls := "HashTreeSignerModel", name := "thrown", desc := "()I" } : Jvm.MethodName)) ∈ vGW := vGW_at 1324 (by decide +kernel) (by decide +kernel)
set_option maxRecDepth 100000 in
theorem vw_1325 : (Jvm.Cond.code ({ cls := "HashTreeSignerModel", name := "thrown", desc := "()I" } : Jvm.MethodName) prog_14_method_2_code (1 : Nat) (Option.some Jvm.ClassFile.FieldType.int)) ∈ vGW := vGW_at 1325 rfl rfl
theorem mL_69 : vLV RL 69 yX12_thrown cX12_thrown 1 (some .int) 0 9 := ⟨⟨_, rfl, rfl⟩, Or.inl vw_1322, vw_1323, vw_1324, vw_15, vw_1325, ⟨by decide +kernel, by decide +kernel⟩, by decide +kernel⟩
theorem vw_1338 : (Jvm.Cond.methodLink "HashTreeSignerLaw" (76 : Nat) ({ cls := "HashTreeSignerModel", name := "end", desc := "(II)I" } : Jvm.MethodName)) ∈ vGW := vGW_at 1338 (by decide +kernel) (by decide +kernel)
theorem vw_1339 : (Jvm.Cond.instanceMethod ({ cls := "HashTreeSignerModel", name := "end", desc := "(II)I" } : Jvm.MethodName)) ∈ vGW := vGW_at 1339 (by decide +kernel) (by decide +kernel)
theorem vw_1340 : (Jvm.Cond.selects "HashTreeSignerModel" ({ cls := "HashTreeSignerModel", name := "end", desc := "(II)I" } : Jvm.MethodName) ({ cls := "HashTreeSignerModel", name := "end", desc := "(II)I" } : Jvm.MethodName)) ∈ vGW := vGW_at 1340 (by decide +kernel) (by decide +kernel)
set_option maxRecDepth 100000 in
theorem vw_1341 : (Jvm.Cond.code ({ cls := "HashTreeSignerModel", name := "end", desc := "(II)I" } : Jvm.MethodName) prog_14_method_7_code (4 : Nat) (Option.some Jvm.ClassFile.FieldType.int)) ∈ vGW := vGW_at 1341 rfl rfl
theorem mL_76 : vLV RL 76 yX12_end cX12_end 4 (some .int) 2 9 := ⟨⟨_, rfl, rfl⟩, Or.inl vw_1338, vw_1339, vw_1340, vw_15, vw_1341, ⟨by decide +kernel, by decide +kernel⟩, by decide +kernel⟩
theorem vw_1345 : (Jvm.Cond.methodLink "HashTreeSignerLaw" (79 : Nat) ({ cls := "HashTreeSignerModel", name := "copy", desc := "(II)I" } : Jvm.MethodName)) ∈ vGW := vGW_at 1345 (by decide +kernel) (by decide +kernel)
theorem vw_1346 : (Jvm.Cond.instanceMethod ({ cls := "HashTreeSignerModel", name := "copy", desc := "(II)I" } : Jvm.MethodName)) ∈ vGW := vGW_at 1346 (by decide +kernel) (by decide +kernel)
theorem vw_1347 : (Jvm.Cond.selects "HashTreeSignerModel" ({ cls := "HashTreeSignerModel", name := "copy", desc := "(II)I" } : Jvm.MethodName) ({ cls := "HashTreeSignerModel", name := "copy", desc := "(II)I" } : Jvm.MethodName)) ∈ vGW := vGW_at 1347 (by decide +kernel) (by decide +kernel)
set_option maxRecDepth 100000 in
theorem vw_1348 : (Jvm.Cond.code ({ cls := "HashTreeSignerModel", name := "copy", desc := "(II)I" } : Jvm.MethodName) prog_14_method_8_code (4 : Nat) (Option.some Jvm.ClassFile.FieldType.int)) ∈ vGW := vGW_at 1348 rfl rfl
theorem mL_79 : vLV RL 79 yX12_copy cX12_copy 4 (some .int) 2 9 := ⟨⟨_, rfl, rfl⟩, Or.inl vw_1345, vw_1346, vw_1347, vw_15, vw_1348, ⟨by decide +kernel, by decide +kernel⟩, by decide +kernel⟩
theorem vw_1349 : (Jvm.Cond.methodLink "HashTreeSignerLaw" (82 : Nat) ({ cls := "HashTreeSignerModel", name := "resize", desc := "(II)I" } : Jvm.MethodName)) ∈ vGW := vGW_at 1349 (by decide +kernel) (by decide +kernel)
theorem vw_1350 : (Jvm.Cond.instanceMethod ({ cls := "HashTreeSignerModel", name := "resize", desc := "(II)I" } : Jvm.MethodName)) ∈ vGW := vGW_at 1350 (by decide +kernel) (by decide +kernel)
theorem vw_1351 : (Jvm.Cond.selects "HashTreeSignerModel" ({ cls := "HashTreeSignerModel", name := "resize", desc := "(II)I" } : Jvm.MethodName) ({ cls := "HashTreeSignerModel", name := "resize", desc := "(II)I" } : Jvm.MethodName)) ∈ vGW := vGW_at 1351 (by decide +kernel) (by decide +kernel)
set_option maxRecDepth 100000 in
theorem vw_1352 : (Jvm.Cond.code ({ cls := "HashTreeSignerModel", name := "resize", desc := "(II)I" } : Jvm.MethodName) prog_14_method_9_code (5 : Nat) (Option.some Jvm.ClassFile.FieldType.int)) ∈ vGW := vGW_at 1352 rfl rfl
theorem mL_82 : vLV RL 82 yX12_resize cX12_resize 5 (some .int) 2 9 := ⟨⟨_, rfl, rfl⟩, Or.inl vw_1349, vw_1350, vw_1351, vw_15, vw_1352, ⟨by decide +kernel, by decide +kernel⟩, by decide +kernel⟩
theorem vw_1353 : (Jvm.Cond.methodLink "HashTreeSignerLaw" (86 : Nat) ({ cls := "HashTreeSignerModel", name := "alter", desc := "(III)I" } : Jvm.MethodName)) ∈ vGW := vGW_at 1353 (by decide +kernel) (by decide +kernel)
theorem vw_1354 : (Jvm.Cond.instanceMethod ({ cls := "HashTreeSignerModel", name := "alter", desc := "(III)I" } : Jvm.MethodName)) ∈ vGW := vGW_at 1354 (by decide +kernel) (by decide +kernel)
theorem vw_1355 : (Jvm.Cond.selects "HashTreeSignerModel" ({ cls := "HashTreeSignerModel", name := "alter", desc := "(III)I" } : Jvm.MethodName) ({ cls := "HashTreeSignerModel", name := "alter", desc := "(III)I" } : Jvm.MethodName)) ∈ vGW := vGW_at 1355 (by decide +kernel) (by decide +kernel)
set_option maxRecDepth 100000 in
theorem vw_1356 : (Jvm.Cond.code ({ cls := "HashTreeSignerModel", name := "alter", desc := "(III)I" } : Jvm.MethodName) prog_14_method_10_code (4 : Nat) (Option.some Jvm.ClassFile.FieldType.int)) ∈ vGW := vGW_at 1356 rfl rfl
theorem mL_86 : vLV RL 86 yX12_alter cX12_alter 4 (some .int) 3 9 := ⟨⟨_, rfl, rfl⟩, Or.inl vw_1353, vw_1354, vw_1355, vw_15, vw_1356, ⟨by decide +kernel, by decide +kernel⟩, by decide +kernel⟩
theorem vw_1357 : (Jvm.Cond.methodLink "HashTreeSignerLaw" (90 : Nat) ({ cls := "HashTreeSignerModel", name := "length", desc := "(I)I" } : Jvm.MethodName)) ∈ vGW := vGW_at 1357 (by decide +kernel) (by decide +kernel)
theorem vw_1358 : (Jvm.Cond.instanceMethod ({ cls := "HashTreeSignerModel", name := "length", desc := "(I)I" } : Jvm.MethodName)) ∈ vGW := vGW_at 1358 (by decide +kernel) (by decide +kernel)
theorem vw_1359 : (Jvm.Cond.selects "HashTreeSignerModel" ({ cls := "HashTreeSignerModel", name := "length", desc := "(I)I" } : Jvm.MethodName) ({ cls := "HashTreeSignerModel", name := "length", desc := "(I)I" } : Jvm.MethodName)) ∈ vGW := vGW_at 1359 (by decide +kernel) (by decide +kernel)
set_option maxRecDepth 100000 in
theorem vw_1360 : (Jvm.Cond.code ({ cls := "HashTreeSignerModel", name := "length", desc := "(I)I" } : Jvm.MethodName) prog_14_method_11_code (2 : Nat) (Option.some Jvm.ClassFile.FieldType.int)) ∈ vGW := vGW_at 1360 rfl rfl
theorem mL_90 : vLV RL 90 yX12_length cX12_length 2 (some .int) 1 9 := ⟨⟨_, rfl, rfl⟩, Or.inl vw_1357, vw_1358, vw_1359, vw_15, vw_1360, ⟨by decide +kernel, by decide +kernel⟩, by decide +kernel⟩
theorem vw_1361 : (Jvm.Cond.methodLink "HashTreeSignerLaw" (93 : Nat) ({ cls := "HashTreeSignerModel", name := "word", desc := "(II)J" } : Jvm.MethodName)) ∈ vGW := vGW_at 1361 (by decide +kernel) (by decide +kernel)
theorem vw_1362 : (Jvm.Cond.instanceMethod ({ cls := "HashTreeSignerModel", name := "word", desc := "(II)J" } : Jvm.MethodName)) ∈ vGW := vGW_at 1362 (by decide +kernel) (by decide +kernel)
theorem vw_1363 : (Jvm.Cond.selects "HashTreeSignerModel" ({ cls := "HashTreeSignerModel", name := "word", desc := "(II)J" } : Jvm.MethodName) ({ cls := "HashTreeSignerModel", name := "word", desc := "(II)J" } : Jvm.MethodName)) ∈ vGW := vGW_at 1363 (by decide +kernel) (by decide +kernel)
set_option maxRecDepth 100000 in
theorem vw_1364 : (Jvm.Cond.code ({ cls := "HashTreeSignerModel", name := "word", desc := "(II)J" } : Jvm.MethodName) prog_14_method_12_code (6 : Nat) (Option.some Jvm.ClassFile.FieldType.long)) ∈ vGW := vGW_at 1364 rfl rfl
theorem mL_93 : vLV RL 93 yX12_word_ cX12_word_ 6 (some .long) 2 9 := ⟨⟨_, rfl, rfl⟩, Or.inl vw_1361, vw_1362, vw_1363, vw_15, vw_1364, ⟨by decide +kernel, by decide +kernel⟩, by decide +kernel⟩
theorem vw_1365 : (Jvm.Cond.methodLink "HashTreeSignerLaw" (96 : Nat) ({ cls := "HashTreeSignerModel", name := "same", desc := "(II)Z" } : Jvm.MethodName)) ∈ vGW := vGW_at 1365 (by decide +kernel) (by decide +kernel)
theorem vw_1366 : (Jvm.Cond.instanceMethod ({ cls := "HashTreeSignerModel", name := "same", desc := "(II)Z" } : Jvm.MethodName)) ∈ vGW := vGW_at 1366 (by decide +kernel) (by decide +kernel)
theorem vw_1367 : (Jvm.Cond.selects "HashTreeSignerModel" ({ cls := "HashTreeSignerModel", name := "same", desc := "(II)Z" } : Jvm.MethodName) ({ cls := "HashTreeSignerModel", name := "same", desc := "(II)Z" } : Jvm.MethodName)) ∈ vGW := vGW_at 1367 (by decide +kernel) (by decide +kernel)
set_option maxRecDepth 100000 in
theorem vw_1368 : (Jvm.Cond.code ({ cls := "HashTreeSignerModel", name := "same", desc := "(II)Z" } : Jvm.MethodName) prog_14_method_13_code (5 : Nat) (Option.some Jvm.ClassFile.FieldType.boolean)) ∈ vGW := vGW_at 1368 rfl rfl
theorem mL_96 : vLV RL 96 yX12_same cX12_same 5 (some .boolean) 2 9 := ⟨⟨_, rfl, rfl⟩, Or.inl vw_1365, vw_1366, vw_1367, vw_15, vw_1368, ⟨by decide +kernel, by decide +kernel⟩, by decide +kernel⟩
theorem vw_1369 : (Jvm.Cond.methodLink "HashTreeSignerLaw" (99 : Nat) ({ cls := "HashTreeSignerModel", name := "slhKeys", desc := "(I)I" } : Jvm.MethodName)) ∈ vGW := vGW_at 1369 (by decide +kernel) (by decide +kernel)
theorem vw_1370 : (Jvm.Cond.instanceMethod ({ cls := "HashTreeSignerModel", name := "slhKeys", desc := "(I)I" } : Jvm.MethodName)) ∈ vGW := vGW_at 1370 (by decide +kernel) (by decide +kernel)
theorem vw_1371 : (Jvm.Cond.selects "HashTreeSignerModel" ({ cls := "HashTreeSignerModel", name := "slhKeys", desc := "(I)I" } : Jvm.MethodName) ({ cls := "HashTreeSignerModel", name := "slhKeys", desc := "(I)I" } : Jvm.MethodName)) ∈ vGW := vGW_at 1371 (by decide +kernel) (by decide +kernel)
set_option maxRecDepth 100000 in
theorem vw_1372 : (Jvm.Cond.code ({ cls := "HashTreeSignerModel", name := "slhKeys", desc := "(I)I" } : Jvm.MethodName) prog_14_method_64_code (2 : Nat) (Option.some Jvm.ClassFile.FieldType.int)) ∈ vGW := vGW_at 1372 rfl rfl
theorem mL_99 : vLV RL 99 yX12_slhKeys cX12_slhKeys 2 (some .int) 1 9 := ⟨⟨_, rfl, rfl⟩, Or.inl vw_1369, vw_1370, vw_1371, vw_15, vw_1372, ⟨by decide +kernel, by decide +kernel⟩, by decide +kernel⟩
theorem vw_1420 : (Jvm.Cond.methodLink "HashTreeSignerLaw" (102 : Nat) ({ cls := "HashTreeSignerModel", name := "slhSign", desc := "(II)I" } : Jvm.MethodName)) ∈ vGW := vGW_at 1420 (by decide +kernel) (by decide +kernel)
theorem vw_1421 : (Jvm.Cond.instanceMethod ({ cls := "HashTreeSignerModel", name := "slhSign", desc := "(II)I" } : Jvm.MethodName)) ∈ vGW := vGW_at 1421 (by decide +kernel) (by decide +kernel)
theorem vw_1422 : (Jvm.Cond.selects "HashTreeSignerModel" ({ cls := "HashTreeSignerModel", name := "slhSign", desc := "(II)I" } : Jvm.MethodName) ({ cls := "HashTreeSignerModel", name := "slhSign", desc := "(II)I" } : Jvm.MethodName)) ∈ vGW := vGW_at 1422 (by decide +kernel) (by decide +kernel)
set_option maxRecDepth 100000 in
theorem vw_1423 : (Jvm.Cond.code ({ cls := "HashTreeSignerModel", name := "slhSign", desc := "(II)I" } : Jvm.MethodName) prog_14_method_65_code (8 : Nat) (Option.some Jvm.ClassFile.FieldType.int)) ∈ vGW := vGW_at 1423 rfl rfl
theorem mL_102 : vLV RL 102 yX12_slhSign cX12_slhSign 8 (some .int) 2 9 := ⟨⟨_, rfl, rfl⟩, Or.inl vw_1420, vw_1421, vw_1422, vw_15, vw_1423, ⟨by decide +kernel, by decide +kernel⟩, by decide +kernel⟩
theorem vw_1496 : (Jvm.Cond.methodLink "HashTreeSignerLaw" (105 : Nat) ({ cls := "HashTreeSignerModel", name := "slhVerify", desc := "(II)Z" } : Jvm.MethodName)) ∈ vGW := vGW_at 1496 (by decide +kernel) (by decide +kernel)
theorem vw_1497 : (Jvm.Cond.instanceMethod ({ cls := "HashTreeSignerModel", name := "slhVerify", desc := "(II)Z" } : Jvm.MethodName)) ∈ vGW := vGW_at 1497 (by decide +kernel) (by decide +kernel)
theorem vw_1498 : (Jvm.Cond.selects "HashTreeSignerModel" ({ cls := "HashTreeSignerModel", name := "slhVerify", desc := "(II)Z" } : Jvm.MethodName) ({ cls := "HashTreeSignerModel", name := "slhVerify", desc := "(II)Z" } : Jvm.MethodName)) ∈ vGW := vGW_at 1498 (by decide +kernel) (by decide +kernel)
set_option maxRecDepth 100000 in
theorem vw_1499 : (Jvm.Cond.code ({ cls := "HashTreeSignerModel", name := "slhVerify", desc := "(II)Z" } : Jvm.MethodName) prog_14_method_66_code (8 : Nat) (Option.some Jvm.ClassFile.FieldType.boolean)) ∈ vGW := vGW_at 1499 rfl rfl
theorem mL_105 : vLV RL 105 yX12_slhVerify cX12_slhVerify 8 (some .boolean) 2 9 := ⟨⟨_, rfl, rfl⟩, Or.inl vw_1496, vw_1497, vw_1498, vw_15, vw_1499, ⟨by decide +kernel, by decide +kernel⟩, by decide +kernel⟩
theorem vw_1503 : (Jvm.Cond.methodLink "HashTreeSignerLaw" (108 : Nat) ({ cls := "HashTreeSignerModel", name := "slhNode", desc := "(IIIII)I" } : Jvm.MethodName)) ∈ vGW := vGW_at 1503 (by decide +kernel) (by decide +kernel)
theorem vw_1504 : (Jvm.Cond.instanceMethod ({ cls := "HashTreeSignerModel", name := "slhNode", desc := "(IIIII)I" } : Jvm.MethodName)) ∈ vGW := vGW_at 1504 (by decide +kernel) (by decide +kernel)
theorem vw_1505 : (Jvm.Cond.selects "HashTreeSignerModel" ({ cls := "HashTreeSignerModel", name := "slhNode", desc := "(IIIII)I" } : Jvm.MethodName) ({ cls := "HashTreeSignerModel", name := "slhNode", desc := "(IIIII)I" } : Jvm.MethodName)) ∈ vGW := vGW_at 1505 (by decide +kernel) (by decide +kernel)
set_option maxRecDepth 100000 in
theorem vw_1506 : (Jvm.Cond.code ({ cls := "HashTreeSignerModel", name := "slhNode", desc := "(IIIII)I" } : Jvm.MethodName) prog_14_method_67_code (6 : Nat) (Option.some Jvm.ClassFile.FieldType.int)) ∈ vGW := vGW_at 1506 rfl rfl
theorem mL_108 : vLV RL 108 yX12_slhNode cX12_slhNode 6 (some .int) 5 9 := ⟨⟨_, rfl, rfl⟩, Or.inl vw_1503, vw_1504, vw_1505, vw_15, vw_1506, ⟨by decide +kernel, by decide +kernel⟩, by decide +kernel⟩
theorem vw_1099 : (Jvm.Cond.methodLink "HashTreeSignerModel" (120 : Nat) ({ cls := "HashTreeSignerModel", name := "constants", desc := "()V" } : Jvm.MethodName)) ∈ vGW := vGW_at 1099 (by decide +kernel) (by decide +kernel)
theorem vw_1101 : (Jvm.Cond.instanceMethod ({ cls := "HashTreeSignerModel", name := "constants", desc := "()V" } : Jvm.MethodName)) ∈ vGW := vGW_at 1101 (by decide +kernel) (by decide +kernel)
theorem vs_17 : (Jvm.Cond.selects "HashTreeSignerModel" ({ cls := "HashTreeSignerModel", name := "constants", desc := "()V" } : Jvm.MethodName) ({ cls := "HashTreeSignerModel", name := "constants", desc := "()V" } : Jvm.MethodName)) ∈ vGW := vGW_sel 17 (by decide +kernel) (by decide +kernel)
set_option maxRecDepth 100000 in
theorem vw_1102 : (Jvm.Cond.code ({ cls := "HashTreeSignerModel", name := "constants", desc := "()V" } : Jvm.MethodName) prog_14_method_19_code (6 : Nat) (Option.none : Option Jvm.ClassFile.FieldType)) ∈ vGW := vGW_at 1102 rfl rfl
theorem mX12_120 : vLV RX12 120 yX12_constants cX12_constants 6 none 0 9 := ⟨⟨_, rfl, rfl⟩, Or.inl vw_1099, vw_1101, vs_17, vw_15, vw_1102, ⟨by decide +kernel, by decide +kernel⟩, by decide +kernel⟩
theorem vw_1330 : (Jvm.Cond.methodLink "HashTreeSignerModel" (130 : Nat) ({ cls := "HashTreeSignerModel", name := "good", desc := "(ZI)Z" } : Jvm.MethodName)) ∈ vGW := vGW_at 1330 (by decide +kernel) (by decide +kernel)
theorem vw_1332 : (Jvm.Cond.instanceMethod ({ cls := "HashTreeSignerModel", name := "good", desc := "(ZI)Z" } : Jvm.MethodName)) ∈ vGW := vGW_at 1332 (by decide +kernel) (by decide +kernel)
theorem vs_29 : (Jvm.Cond.selects "HashTreeSignerModel" ({ cls := "HashTreeSignerModel", name := "good", desc := "(ZI)Z" } : Jvm.MethodName) ({ cls := "HashTreeSignerModel", name := "good", desc := "(ZI)Z" } : Jvm.MethodName)) ∈ vGW := vGW_sel 29 (by decide +kernel) (by decide +kernel)
set_option maxRecDepth 100000 in
theorem vw_1333 : (Jvm.Cond.code ({ cls := "HashTreeSignerModel", name := "good", desc := "(ZI)Z" } : Jvm.MethodName) prog_14_method_4_code (3 : Nat) (Option.some Jvm.ClassFile.FieldType.boolean)) ∈ vGW := vGW_at 1333 rfl rfl
theorem mX12_130 : vLV RX12 130 yX12_good cX12_good 3 (some .boolean) 2 9 := ⟨⟨_, rfl, rfl⟩, Or.inl vw_1330, vw_1332, vs_29, vw_15, vw_1333, ⟨by decide +kernel, by decide +kernel⟩, by decide +kernel⟩
theorem vw_1334 : (Jvm.Cond.methodLink "HashTreeSignerModel" (134 : Nat) ({ cls := "HashTreeSignerModel", name := "word", desc := "(I)V" } : Jvm.MethodName)) ∈ vGW := vGW_at 1334 (by decide +kernel) (by decide +kernel)
theorem vw_1336 : (Jvm.Cond.instanceMethod ({ cls := "HashTreeSignerModel", name := "word", desc := "(I)V" } : Jvm.MethodName)) ∈ vGW := vGW_at 1336 (by decide +kernel) (by decide +kernel)
theorem vs_30 : (Jvm.Cond.selects "HashTreeSignerModel" ({ cls := "HashTreeSignerModel", name := "word", desc := "(I)V" } : Jvm.MethodName) ({ cls := "HashTreeSignerModel", name := "word", desc := "(I)V" } : Jvm.MethodName)) ∈ vGW := vGW_sel 30 (by decide +kernel) (by decide +kernel)
set_option maxRecDepth 100000 in
theorem vw_1337 : (Jvm.Cond.code ({ cls := "HashTreeSignerModel", name := "word", desc := "(I)V" } : Jvm.MethodName) prog_14_method_6_code (3 : Nat) (Option.none : Option Jvm.ClassFile.FieldType)) ∈ vGW := vGW_at 1337 rfl rfl
theorem mX12_134 : vLV RX12 134 yX12_word cX12_word 3 none 1 9 := ⟨⟨_, rfl, rfl⟩, Or.inl vw_1334, vw_1336, vs_30, vw_15, vw_1337, ⟨by decide +kernel, by decide +kernel⟩, by decide +kernel⟩
theorem vw_1342 : (Jvm.Cond.methodLink "HashTreeSignerModel" (138 : Nat) ({ cls := "HashTreeSignerModel", name := "in", desc := "(III)Z" } : Jvm.MethodName)) ∈ vGW := vGW_at 1342 (by decide +kernel) (by decide +kernel)
theorem vw_1343 : (Jvm.Cond.static ({ cls := "HashTreeSignerModel", name := "in", desc := "(III)Z" } : Jvm.MethodName)) ∈ vGW := vGW_at 1343 (by decide +kernel) (by decide +kernel)
set_option maxRecDepth 100000 in
theorem vw_1344 : (Jvm.Cond.code ({ cls := "HashTreeSignerModel", name := "in", desc := "(III)Z" } : Jvm.MethodName) prog_14_method_3_code (3 : Nat) (Option.some Jvm.ClassFile.FieldType.boolean)) ∈ vGW := vGW_at 1344 rfl rfl
theorem mX12_138 : vLS RX12 138 yX12_in cX12_in 3 (some .boolean) 3 := ⟨Or.inl vw_1342, vw_1343, vw_15, vw_1344, ⟨by decide +kernel, by decide +kernel⟩, by decide +kernel⟩
theorem vw_1110 : (Jvm.Cond.methodLink "HashTreeSignerModel" (146 : Nat) ({ cls := "HashTreeSignerModel", name := "above", desc := "(IJII)Z" } : Jvm.MethodName)) ∈ vGW := vGW_at 1110 (by decide +kernel) (by decide +kernel)
theorem vw_1112 : (Jvm.Cond.instanceMethod ({ cls := "HashTreeSignerModel", name := "above", desc := "(IJII)Z" } : Jvm.MethodName)) ∈ vGW := vGW_at 1112 (by decide +kernel) (by decide +kernel)
theorem vs_19 : (Jvm.Cond.selects "HashTreeSignerModel" ({ cls := "HashTreeSignerModel", name := "above", desc := "(IJII)Z" } : Jvm.MethodName) ({ cls := "HashTreeSignerModel", name := "above", desc := "(IJII)Z" } : Jvm.MethodName)) ∈ vGW := vGW_sel 19 (by decide +kernel) (by decide +kernel)
set_option maxRecDepth 100000 in
theorem vw_1113 : (Jvm.Cond.code ({ cls := "HashTreeSignerModel", name := "above", desc := "(IJII)Z" } : Jvm.MethodName) prog_14_method_17_code (10 : Nat) (Option.some Jvm.ClassFile.FieldType.boolean)) ∈ vGW := vGW_at 1113 rfl rfl
theorem mX12_146 : vLV RX12 146 yX12_above cX12_above 10 (some .boolean) 4 9 := ⟨⟨_, rfl, rfl⟩, Or.inl vw_1110, vw_1112, vs_19, vw_15, vw_1113, ⟨by decide +kernel, by decide +kernel⟩, by decide +kernel⟩
theorem vw_1103 : (Jvm.Cond.methodLink "HashTreeSignerModel" (150 : Nat) ({ cls := "HashTreeSignerModel", name := "prime", desc := "(I)Z" } : Jvm.MethodName)) ∈ vGW := vGW_at 1103 (by decide +kernel) (by decide +kernel)
theorem vw_1104 : (Jvm.Cond.static ({ cls := "HashTreeSignerModel", name := "prime", desc := "(I)Z" } : Jvm.MethodName)) ∈ vGW := vGW_at 1104 (by decide +kernel) (by decide +kernel)
set_option maxRecDepth 100000 in
theorem vw_1105 : (Jvm.Cond.code ({ cls := "HashTreeSignerModel", name := "prime", desc := "(I)Z" } : Jvm.MethodName) prog_14_method_16_code (2 : Nat) (Option.some Jvm.ClassFile.FieldType.boolean)) ∈ vGW := vGW_at 1105 rfl rfl
theorem mX12_150 : vLS RX12 150 yX12_prime cX12_prime 2 (some .boolean) 1 := ⟨Or.inl vw_1103, vw_1104, vw_15, vw_1105, ⟨by decide +kernel, by decide +kernel⟩, by decide +kernel⟩
theorem vw_1106 : (Jvm.Cond.methodLink "HashTreeSignerModel" (154 : Nat) ({ cls := "HashTreeSignerModel", name := "root", desc := "(II)J" } : Jvm.MethodName)) ∈ vGW := vGW_at 1106 (by decide +kernel) (by decide +kernel)
theorem vw_1108 : (Jvm.Cond.instanceMethod ({ cls := "HashTreeSignerModel", name := "root", desc := "(II)J" } : Jvm.MethodName)) ∈ vGW := vGW_at 1108 (by decide +kernel) (by decide +kernel)
theorem vs_18 : (Jvm.Cond.selects "HashTreeSignerModel" ({ cls := "HashTreeSignerModel", name := "root", desc := "(II)J" } : Jvm.MethodName) ({ cls := "HashTreeSignerModel", name := "root", desc := "(II)J" } : Jvm.MethodName)) ∈ vGW := vGW_sel 18 (by decide +kernel) (by decide +kernel)
set_option maxRecDepth 100000 in
theorem vw_1109 : (Jvm.Cond.code ({ cls := "HashTreeSignerModel", name := "root", desc := "(II)J" } : Jvm.MethodName) prog_14_method_18_code (7 : Nat) (Option.some Jvm.ClassFile.FieldType.long)) ∈ vGW := vGW_at 1109 rfl rfl
theorem mX12_154 : vLV RX12 154 yX12_root cX12_root 7 (some .long) 2 9 := ⟨⟨_, rfl, rfl⟩, Or.inl vw_1106, vw_1108, vs_18, vw_15, vw_1109, ⟨by decide +kernel, by decide +kernel⟩, by decide +kernel⟩
theorem vw_1115 : (Jvm.Cond.methodLink "HashTreeSignerModel" (158 : Nat) ({ cls := "HashTreeSignerModel", name := "bit", desc := "(I)I" } : Jvm.MethodName)) ∈ vGW := vGW_at 1115 (by decide +kernel) (by decide +kernel)
theorem vw_1116 : (Jvm.Cond.static ({ cls := "HashTreeSignerModel", name := "bit", desc := "(I)I" } : Jvm.MethodName)) ∈ vGW := vGW_at 1116 (by decide +kernel) (by decide +kernel)
set_option maxRecDepth 100000 in
theorem vw_1117 : (Jvm.Cond.code ({ cls := "HashTreeSignerModel", name := "bit", desc := "(I)I" } : Jvm.MethodName) prog_14_method_20_code (3 : Nat) (Option.some Jvm.ClassFile.FieldType.int)) ∈ vGW := vGW_at 1117 rfl rfl
theorem mX12_158 : vLS RX12 158 yX12_bit cX12_bit 3 (some .int) 1 := ⟨Or.inl vw_1115, vw_1116, vw_15, vw_1117, ⟨by decide +kernel, by decide +kernel⟩, by decide +kernel⟩
theorem vw_1118 : (Jvm.Cond.methodLink "HashTreeSignerModel" (162 : Nat) ({ cls := "HashTreeSignerModel", name := "named", desc := "([JII)V" } : Jvm.MethodName)) ∈ vGW := vGW_at 1118 (by decide +kernel) (by decide +kernel)
theorem vw_1120 : (Jvm.Cond.instanceMethod ({ cls := "HashTreeSignerModel", name := "named", desc := "([JII)V" } : Jvm.MethodName)) ∈ vGW := vGW_at 1120 (by decide +kernel) (by decide +kernel)
theorem vs_20 : (Jvm.Cond.selects "HashTreeSignerModel" ({ cls := "HashTreeSignerModel", name := "named", desc := "([JII)V" } : Jvm.MethodName) ({ cls := "HashTreeSignerModel", name := "named", desc := "([JII)V" } : Jvm.MethodName)) ∈ vGW := vGW_sel 20 (by decide +kernel) (by decide +kernel)
set_option maxRecDepth 100000 in
theorem vw_1121 : (Jvm.Cond.code ({ cls := "HashTreeSignerModel", name := "named", desc := "([JII)V" } : Jvm.MethodName) prog_14_method_21_code (5 : Nat) (Option.none : Option Jvm.ClassFile.FieldType)) ∈ vGW := vGW_at 1121 rfl rfl
theorem mX12_162 : vLV RX12 162 yX12_named cX12_named 5 none 3 9 := ⟨⟨_, rfl, rfl⟩, Or.inl vw_1118, vw_1120, vs_20, vw_15, vw_1121, ⟨by decide +kernel, by decide +kernel⟩, by decide +kernel⟩
theorem vw_1122 : (Jvm.Cond.methodLink "HashTreeSignerModel" (166 : Nat) ({ cls := "HashTreeSignerModel", name := "begin", desc := "(I)V" } : Jvm.MethodName)) ∈ vGW := vGW_at 1122 (by decide +kernel) (by decide +kernel)
theorem vw_1124 : (Jvm.Cond.instanceMethod ({ cls := "HashTreeSignerModel", name := "begin", desc := "(I)V" } : Jvm.MethodName)) ∈ vGW := vGW_at 1124 (by decide +kernel) (by decide +kernel)
theorem vs_21 : (Jvm.Cond.selects "HashTreeSignerModel" ({ cls := "HashTreeSignerModel", name := "begin", desc := "(I)V" } : Jvm.MethodName) ({ cls := "HashTreeSignerModel", name := "begin", desc := "(I)V" } : Jvm.MethodName)) ∈ vGW := vGW_sel 21 (by decide +kernel) (by decide +kernel)
set_option maxRecDepth 100000 in
theorem vw_1125 : (Jvm.Cond.code ({ cls := "HashTreeSignerModel", name := "begin", desc := "(I)V" } : Jvm.MethodName) prog_14_method_25_code (3 : Nat) (Option.none : Option Jvm.ClassFile.FieldType)) ∈ vGW := vGW_at 1125 rfl rfl
theorem mX12_166 : vLV RX12 166 yX12_begin cX12_begin 3 none 1 9 := ⟨⟨_, rfl, rfl⟩, Or.inl vw_1122, vw_1124, vs_21, vw_15, vw_1125, ⟨by decide +kernel, by decide +kernel⟩, by decide +kernel⟩
theorem vw_1134 : (Jvm.Cond.methodLink "HashTreeSignerModel" (171 : Nat) ({ cls := "HashTreeSignerModel", name := "put", desc := "(I)V" } : Jvm.MethodName)) ∈ vGW := vGW_at 1134 (by decide +kernel) (by decide +kernel)
theorem vw_1136 : (Jvm.Cond.instanceMethod ({ cls := "HashTreeSignerModel", name := "put", desc := "(I)V" } : Jvm.MethodName)) ∈ vGW := vGW_at 1136 (by decide +kernel) (by decide +kernel)
theorem vs_22 : (Jvm.Cond.selects "HashTreeSignerModel" ({ cls := "HashTreeSignerModel", name := "put", desc := "(I)V" } : Jvm.MethodName) ({ cls := "HashTreeSignerModel", name := "put", desc := "(I)V" } : Jvm.MethodName)) ∈ vGW := vGW_sel 22 (by decide +kernel) (by decide +kernel)
set_option maxRecDepth 100000 in
theorem vw_1137 : (Jvm.Cond.code ({ cls := "HashTreeSignerModel", name := "put", desc := "(I)V" } : Jvm.MethodName) prog_14_method_27_code (2 : Nat) (Option.none : Option Jvm.ClassFile.FieldType)) ∈ vGW := vGW_at 1137 rfl rfl
theorem mX12_171 : vLV RX12 171 yX12_put cX12_put 2 none 1 9 := ⟨⟨_, rfl, rfl⟩, Or.inl vw_1134, vw_1136, vs_22, vw_15, vw_1137, ⟨by decide +kernel, by decide +kernel⟩, by decide +kernel⟩
theorem vw_1169 : (Jvm.Cond.methodLink "HashTreeSignerModel" (174 : Nat) ({ cls := "HashTreeSignerModel", name := "finish", desc := "()V" } : Jvm.MethodName)) ∈ vGW := vGW_at 1169 (by decide +kernel) (by decide +kernel)
theorem vw_1171 : (Jvm.Cond.instanceMethod ({ cls := "HashTreeSignerModel", name := "finish", desc := "()V" } : Jvm.MethodName)) ∈ vGW := vGW_at 1171 (by decide +kernel) (by decide +kernel)
theorem vs_28 : (Jvm.Cond.selects "HashTreeSignerModel" ({ cls := "HashTreeSignerModel", name := "finish", desc := "()V" } : Jvm.MethodName) ({ cls := "HashTreeSignerModel", name := "finish", desc := "()V" } : Jvm.MethodName)) ∈ vGW := vGW_sel 28 (by decide +kernel) (by decide +kernel)
set_option maxRecDepth 100000 in
theorem vw_1172 : (Jvm.Cond.code ({ cls := "HashTreeSignerModel", name := "finish", desc := "()V" } : Jvm.MethodName) prog_14_method_35_code (4 : Nat) (Option.none : Option Jvm.ClassFile.FieldType)) ∈ vGW := vGW_at 1172 rfl rfl
theorem mX12_174 : vLV RX12 174 yX12_finish cX12_finish 4 none 0 9 := ⟨⟨_, rfl, rfl⟩, Or.inl vw_1169, vw_1171, vs_28, vw_15, vw_1172, ⟨by decide +kernel, by decide +kernel⟩, by decide +kernel⟩
theorem vw_1126 : (Jvm.Cond.methodLink "HashTreeSignerModel" (187 : Nat) ({ cls := "HashTreeSignerModel", name := "digestOf", desc := "(I)I" } : Jvm.MethodName)) ∈ vGW := vGW_at 1126 (by decide +kernel) (by decide +kernel)
theorem vw_1127 : (Jvm.Cond.static ({ cls := "HashTreeSignerModel", name := "digestOf", desc := "(I)I" } : Jvm.MethodName)) ∈ vGW := vGW_at 1127 (by decide +kernel) (by decide +kernel)
set_option maxRecDepth 100000 in
theorem vw_1128 : (Jvm.Cond.code ({ cls := "HashTreeSignerModel", name := "digestOf", desc := "(I)I" } : Jvm.MethodName) prog_14_method_24_code (1 : Nat) (Option.some Jvm.ClassFile.FieldType.int)) ∈ vGW := vGW_at 1128 rfl rfl
theorem mX12_187 : vLS RX12 187 yX12_digestOf cX12_digestOf 1 (some .int) 1 := ⟨Or.inl vw_1126, vw_1127, vw_15, vw_1128, ⟨by decide +kernel, by decide +kernel⟩, by decide +kernel⟩
theorem vw_1129 : (Jvm.Cond.methodLink "HashTreeSignerModel" (190 : Nat) ({ cls := "HashTreeSignerModel", name := "blockOf", desc := "(I)I" } : Jvm.MethodName)) ∈ vGW := vGW_at 1129 (by decide +kernel) (by decide +kernel)
theorem vw_1130 : (Jvm.Cond.static ({ cls := "HashTreeSignerModel", name := "blockOf", desc := "(I)I" } : Jvm.MethodName)) ∈ vGW := vGW_at 1130 (by decide +kernel) (by decide +kernel)
set_option maxRecDepth 100000 in
theorem vw_1131 : (Jvm.Cond.code ({ cls := "HashTreeSignerModel", name := "blockOf", desc := "(I)I" } : Jvm.MethodName) prog_14_method_23_code (1 : Nat) (Option.some Jvm.ClassFile.FieldType.int)) ∈ vGW := vGW_at 1131 rfl rfl
theorem mX12_190 : vLS RX12 190 yX12_blockOf cX12_blockOf 1 (some .int) 1 := ⟨Or.inl vw_1129, vw_1130, vw_15, vw_1131, ⟨by decide +kernel, by decide +kernel⟩, by decide +kernel⟩
theorem vw_1138 : (Jvm.Cond.methodLink "HashTreeSignerModel" (198 : Nat) ({ cls := "HashTreeSignerModel", name := "sponge", desc := "()Z" } : Jvm.MethodName)) ∈ vGW := vGW_at 1138 (by decide +kernel) (by decide +kernel)
theorem vw_1140 : (Jvm.Cond.instanceMethod ({ cls := "HashTreeSignerModel", name := "sponge", desc := "()Z" } : Jvm.MethodName)) ∈ vGW := vGW_at 1140 (by decide +kernel) (by decide +kernel)
theorem vs_23 : (Jvm.Cond.selects "HashTreeSignerModel" ({ cls := "HashTreeSignerModel", name := "sponge", desc := "()Z" } : Jvm.MethodName) ({ cls := "HashTreeSignerModel", name := "sponge", desc := "()Z" } : Jvm.MethodName)) ∈ vGW := vGW_sel 23 (by decide +kernel) (by decide +kernel)
set_option maxRecDepth 100000 in
theorem vw_1141 : (Jvm.Cond.code ({ cls := "HashTreeSignerModel", name := "sponge", desc := "()Z" } : Jvm.MethodName) prog_14_method_22_code (1 : Nat) (Option.some Jvm.ClassFile.FieldType.boolean)) ∈ vGW := vGW_at 1141 rfl rfl
theorem mX12_198 : vLV RX12 198 yX12_sponge cX12_sponge 1 (some .boolean) 0 9 := ⟨⟨_, rfl, rfl⟩, Or.inl vw_1138, vw_1140, vs_23, vw_15, vw_1141, ⟨by decide +kernel, by decide +kernel⟩, by decide +kernel⟩
theorem vw_1142 : (Jvm.Cond.methodLink "HashTreeSignerModel" (202 : Nat) ({ cls := "HashTreeSignerModel", name := "flip", desc := "(II)V" } : Jvm.MethodName)) ∈ vGW := vGW_at 1142 (by decide +kernel) (by decide +kernel)
theorem vw_1144 : (Jvm.Cond.instanceMethod ({ cls := "HashTreeSignerModel", name := "flip", desc := "(II)V" } : Jvm.MethodName)) ∈ vGW := vGW_at 1144 (by decide +kernel) (by decide +kernel)
theorem vs_24 : (Jvm.Cond.selects "HashTreeSignerModel" ({ cls := "HashTreeSignerModel", name := "flip", desc := "(II)V" } : Jvm.MethodName) ({ cls := "HashTreeSignerModel", name := "flip", desc := "(II)V" } : Jvm.MethodName)) ∈ vGW := vGW_sel 24 (by decide +kernel) (by decide +kernel)
set_option maxRecDepth 100000 in
theorem vw_1145 : (Jvm.Cond.code ({ cls := "HashTreeSignerModel", name := "flip", desc := "(II)V" } : Jvm.MethodName) prog_14_method_26_code (3 : Nat) (Option.none : Option Jvm.ClassFile.FieldType)) ∈ vGW := vGW_at 1145 rfl rfl
theorem mX12_202 : vLV RX12 202 yX12_flip cX12_flip 3 none 2 9 := ⟨⟨_, rfl, rfl⟩, Or.inl vw_1142, vw_1144, vs_24, vw_15, vw_1145, ⟨by decide +kernel, by decide +kernel⟩, by decide +kernel⟩
theorem vw_1147 : (Jvm.Cond.methodLink "HashTreeSignerModel" (206 : Nat) ({ cls := "HashTreeSignerModel", name := "permute", desc := "()V" } : Jvm.MethodName)) ∈ vGW := vGW_at 1147 (by decide +kernel) (by decide +kernel)
theorem vw_1149 : (Jvm.Cond.instanceMethod ({ cls := "HashTreeSignerModel", name := "permute", desc := "()V" } : Jvm.MethodName)) ∈ vGW := vGW_at 1149 (by decide +kernel) (by decide +kernel)
theorem vs_25 : (Jvm.Cond.selects "HashTreeSignerModel" ({ cls := "HashTreeSignerModel", name := "permute", desc := "()V" } : Jvm.MethodName) ({ cls := "HashTreeSignerModel", name := "permute", desc := "()V" } : Jvm.MethodName)) ∈ vGW := vGW_sel 25 (by decide +kernel) (by decide +kernel)
set_option maxRecDepth 100000 in
theorem vw_1150 : (Jvm.Cond.code ({ cls := "HashTreeSignerModel", name := "permute", desc := "()V" } : Jvm.MethodName) prog_14_method_29_code (4 : Nat) (Option.none : Option Jvm.ClassFile.FieldType)) ∈ vGW := vGW_at 1150 rfl rfl
theorem mX12_206 : vLV RX12 206 yX12_permute cX12_permute 4 none 0 9 := ⟨⟨_, rfl, rfl⟩, Or.inl vw_1147, vw_1149, vs_25, vw_15, vw_1150, ⟨by decide +kernel, by decide +kernel⟩, by decide +kernel⟩
theorem vw_1155 : (Jvm.Cond.methodLink "HashTreeSignerModel" (209 : Nat) ({ cls := "HashTreeSignerModel", name := "compress32", desc := "()V" } : Jvm.MethodName)) ∈ vGW := vGW_at 1155 (by decide +kernel) (by decide +kernel)
theorem vw_1157 : (Jvm.Cond.instanceMethod ({ cls := "HashTreeSignerModel", name := "compress32", desc := "()V" } : Jvm.MethodName)) ∈ vGW := vGW_at 1157 (by decide +kernel) (by decide +kernel)
theorem vs_26 : (Jvm.Cond.selects "HashTreeSignerModel" ({ cls := "HashTreeSignerModel", name := "compress32", desc := "()V" } : Jvm.MethodName) ({ cls := "HashTreeSignerModel", name := "compress32", desc := "()V" } : Jvm.MethodName)) ∈ vGW := vGW_sel 26 (by decide +kernel) (by decide +kernel)
set_option maxRecDepth 100000 in
theorem vw_1158 : (Jvm.Cond.code ({ cls := "HashTreeSignerModel", name := "compress32", desc := "()V" } : Jvm.MethodName) prog_14_method_34_code (12 : Nat) (Option.none : Option Jvm.ClassFile.FieldType)) ∈ vGW := vGW_at 1158 rfl rfl
theorem mX12_209 : vLV RX12 209 yX12_compress32 cX12_compress32 12 none 0 9 := ⟨⟨_, rfl, rfl⟩, Or.inl vw_1155, vw_1157, vs_26, vw_15, vw_1158, ⟨by decide +kernel, by decide +kernel⟩, by decide +kernel⟩
theorem vw_1162 : (Jvm.Cond.methodLink "HashTreeSignerModel" (212 : Nat) ({ cls := "HashTreeSignerModel", name := "compress64", desc := "()V" } : Jvm.MethodName)) ∈ vGW := vGW_at 1162 (by decide +kernel) (by decide +kernel)
theorem vw_1164 : (Jvm.Cond.instanceMethod ({ cls := "HashTreeSignerModel", name := "compress64", desc := "()V" } : Jvm.MethodName)) ∈ vGW := vGW_at 1164 (by decide +kernel) (by decide +kernel)
theorem vs_27 : (Jvm.Cond.selects "HashTreeSignerModel" ({ cls := "HashTreeSignerModel", name := "compress64", desc := "()V" } : Jvm.MethodName) ({ cls := "HashTreeSignerModel", name := "compress64", desc := "()V" } : Jvm.MethodName)) ∈ vGW := vGW_sel 27 (by decide +kernel) (by decide +kernel)
set_option maxRecDepth 100000 in
theorem vw_1165 : (Jvm.Cond.code ({ cls := "HashTreeSignerModel", name := "compress64", desc := "()V" } : Jvm.MethodName) prog_14_method_33_code (22 : Nat) (Option.none : Option Jvm.ClassFile.FieldType)) ∈ vGW := vGW_at 1165 rfl rfl
theorem mX12_212 : vLV RX12 212 yX12_compress64 cX12_compress64 22 none 0 9 := ⟨⟨_, rfl, rfl⟩, Or.inl vw_1162, vw_1164, vs_27, vw_15, vw_1165, ⟨by decide +kernel, by decide +kernel⟩, by decide +kernel⟩
theorem vw_1151 : (Jvm.Cond.methodLink "HashTreeSignerModel" (215 : Nat) ({ cls := "HashTreeSignerModel", name := "left", desc := "(JI)J" } : Jvm.MethodName)) ∈ vGW := vGW_at 1151 (by decide +kernel) (by decide +kernel)
theorem vw_1152 : (Jvm.Cond.static ({ cls := "HashTreeSignerModel", name := "left", desc := "(JI)J" } : Jvm.MethodName)) ∈ vGW := vGW_at 1152 (by decide +kernel) (by decide +kernel)
set_option maxRecDepth 100000 in
theorem vw_1153 : (Jvm.Cond.code ({ cls := "HashTreeSignerModel", name := "left", desc := "(JI)J" } : Jvm.MethodName) prog_14_method_30_code (3 : Nat) (Option.some Jvm.ClassFile.FieldType.long)) ∈ vGW := vGW_at 1153 rfl rfl
theorem mX12_215 : vLS RX12 215 yX12_left cX12_left 3 (some .long) 2 := ⟨Or.inl vw_1151, vw_1152, vw_15, vw_1153, ⟨by decide +kernel, by decide +kernel⟩, by decide +kernel⟩
theorem vw_1166 : (Jvm.Cond.methodLink "HashTreeSignerModel" (221 : Nat) ({ cls := "HashTreeSignerModel", name := "right", desc := "(JI)J" } : Jvm.MethodName)) ∈ vGW := vGW_at 1166 (by decide +kernel) (by decide +kernel)
theorem vw_1167 : (Jvm.Cond.static ({ cls := "HashTreeSignerModel", name := "right", desc := "(JI)J" } : Jvm.MethodName)) ∈ vGW := vGW_at 1167 (by decide +kernel) (by decide +kernel)
set_option maxRecDepth 100000 in
theorem vw_1168 : (Jvm.Cond.code ({ cls := "HashTreeSignerModel", name := "right", desc := "(JI)J" } : Jvm.MethodName) prog_14_method_31_code (3 : Nat) (Option.some Jvm.ClassFile.FieldType.long)) ∈ vGW := vGW_at 1168 rfl rfl
theorem mX12_221 : vLS RX12 221 yX12_right cX12_right 3 (some .long) 2 := ⟨Or.inl vw_1166, vw_1167, vw_15, vw_1168, ⟨by decide +kernel, by decide +kernel⟩, by decide +kernel⟩
theorem vw_1159 : (Jvm.Cond.methodLink "HashTreeSignerModel" (224 : Nat) ({ cls := "HashTreeSignerModel", name := "turn", desc := "(II)I" } : Jvm.MethodName)) ∈ vGW := vGW_at 1159 (by decide +kernel) (by decide +kernel)
theorem vw_1160 : (Jvm.Cond.static ({ cls := "HashTreeSignerModel", name := "turn", desc := "(II)I" } : Jvm.MethodName)) ∈ vGW := vGW_at 1160 (by decide +kernel) (by decide +kernel)
set_option maxRecDepth 100000 in
theorem vw_1161 : (Jvm.Cond.code ({ cls := "HashTreeSignerModel", name := "turn", desc := "(II)I" } : Jvm.MethodName) prog_14_method_32_code (2 : Nat) (Option.some Jvm.ClassFile.FieldType.int)) ∈ vGW := vGW_at 1161 rfl rfl
theorem mX12_224 : vLS RX12 224 yX12_turn cX12_turn 2 (some .int) 2 := ⟨Or.inl vw_1159, vw_1160, vw_15, vw_1161, ⟨by decide +kernel, by decide +kernel⟩, by decide +kernel⟩
theorem vw_1412 : (Jvm.Cond.methodLink "HashTreeSignerModel" (229 : Nat) ({ cls := "HashTreeSignerModel", name := "squeeze", desc := "()I" } : Jvm.MethodName)) ∈ vGW := vGW_at 1412 (by decide +kernel) (by decide +kernel)
theorem vw_1414 : (Jvm.Cond.instanceMethod ({ cls := "HashTreeSignerModel", name := "squeeze", desc := "()I" } : Jvm.MethodName)) ∈ vGW := vGW_at 1414 (by decide +kernel) (by decide +kernel)
theorem vs_40 : (Jvm.Cond.selects "HashTreeSignerModel" ({ cls := "HashTreeSignerModel", name := "squeeze", desc := "()I" } : Jvm.MethodName) ({ cls := "HashTreeSignerModel", name := "squeeze", desc := "()I" } : Jvm.MethodName)) ∈ vGW := vGW_sel 40 (by decide +kernel) (by decide +kernel)
set_option maxRecDepth 100000 in
theorem vw_1415 : (Jvm.Cond.code ({ cls := "HashTreeSignerModel", name := "squeeze", desc := "()I" } : Jvm.MethodName) prog_14_method_36_code (2 : Nat) (Option.some Jvm.ClassFile.FieldType.int)) ∈ vGW := vGW_at 1415 rfl rfl
theorem mX12_229 : vLV RX12 229 yX12_squeeze cX12_squeeze 2 (some .int) 0 9 := ⟨⟨_, rfl, rfl⟩, Or.inl vw_1412, vw_1414, vs_40, vw_15, vw_1415, ⟨by decide +kernel, by decide +kernel⟩, by decide +kernel⟩
theorem vw_1404 : (Jvm.Cond.methodLink "HashTreeSignerModel" (233 : Nat) ({ cls := "HashTreeSignerModel", name := "put", desc := "([BII)V" } : Jvm.MethodName)) ∈ vGW := vGW_at 1404 (by decide +kernel) (by decide +kernel)
theorem vw_1406 : (Jvm.Cond.instanceMethod ({ cls := "HashTreeSignerModel", name := "put", desc := "([BII)V" } : Jvm.MethodName)) ∈ vGW := vGW_at 1406 (by decide +kernel) (by decide +kernel)
theorem vs_38 : (Jvm.Cond.selects "HashTreeSignerModel" ({ cls := "HashTreeSignerModel", name := "put", desc := "([BII)V" } : Jvm.MethodName) ({ cls := "HashTreeSignerModel", name := "put", desc := "([BII)V" } : Jvm.MethodName)) ∈ vGW := vGW_sel 38 (by decide +kernel) (by decide +kernel)
set_option maxRecDepth 100000 in
theorem vw_1407 : (Jvm.Cond.code ({ cls := "HashTreeSignerModel", name := "put", desc := "([BII)V" } : Jvm.MethodName) prog_14_method_28_code (5 : Nat) (Option.none : Option Jvm.ClassFile.FieldType)) ∈ vGW := vGW_at 1407 rfl rfl
theorem mX12_233 : vLV RX12 233 yX12_put_ cX12_put_ 5 none 3 9 := ⟨⟨_, rfl, rfl⟩, Or.inl vw_1404, vw_1406, vs_38, vw_15, vw_1407, ⟨by decide +kernel, by decide +kernel⟩, by decide +kernel⟩
theorem vw_1408 : (Jvm.Cond.methodLink "HashTreeSignerModel" (236 : Nat) ({ cls := "HashTreeSignerModel", name := "give", desc := "([BII)V" } : Jvm.MethodName)) ∈ vGW := vGW_at 1408 (by decide +kernel) (by decide +kernel)
theorem vw_1410 : (Jvm.Cond.instanceMethod ({ cls := "HashTreeSignerModel", name := "give", desc := "([BII)V" } : Jvm.MethodName)) ∈ vGW := vGW_at 1410 (by decide +kernel) (by decide +kernel)
theorem vs_39 : (Jvm.Cond.selects "HashTreeSignerModel" ({ cls := "HashTreeSignerModel", name := "give", desc := "([BII)V" } : Jvm.MethodName) ({ cls := "HashTreeSignerModel", name := "give", desc := "([BII)V" } : Jvm.MethodName)) ∈ vGW := vGW_sel 39 (by decide +kernel) (by decide +kernel)
set_option maxRecDepth 100000 in
theorem vw_1411 : (Jvm.Cond.code ({ cls := "HashTreeSignerModel", name := "give", desc := "([BII)V" } : Jvm.MethodName) prog_14_method_37_code (5 : Nat) (Option.none : Option Jvm.ClassFile.FieldType)) ∈ vGW := vGW_at 1411 rfl rfl
theorem mX12_236 : vLV RX12 236 yX12_give cX12_give 5 none 3 9 := ⟨⟨_, rfl, rfl⟩, Or.inl vw_1408, vw_1410, vs_39, vw_15, vw_1411, ⟨by decide +kernel, by decide +kernel⟩, by decide +kernel⟩
theorem vw_1377 : (Jvm.Cond.methodLink "HashTreeSignerModel" (239 : Nat) ({ cls := "HashTreeSignerModel", name := "move", desc := "([BI[BII)V" } : Jvm.MethodName)) ∈ vGW := vGW_at 1377 (by decide +kernel) (by decide +kernel)
theorem vw_1378 : (Jvm.Cond.static ({ cls := "HashTreeSignerModel", name := "move", desc := "([BI[BII)V" } : Jvm.MethodName)) ∈ vGW := vGW_at 1378 (by decide +kernel) (by decide +kernel)
set_option maxRecDepth 100000 in
theorem vw_1379 : (Jvm.Cond.code ({ cls := "HashTreeSignerModel", name := "move", desc := "([BI[BII)V" } : Jvm.MethodName) prog_14_method_14_code (6 : Nat) (Option.none : Option Jvm.ClassFile.FieldType)) ∈ vGW := vGW_at 1379 rfl rfl
theorem mX12_239 : vLS RX12 239 yX12_move cX12_move 6 none 5 := ⟨Or.inl vw_1377, vw_1378, vw_15, vw_1379, ⟨by decide +kernel, by decide +kernel⟩, by decide +kernel⟩
theorem vw_1400 : (Jvm.Cond.methodLink "HashTreeSignerModel" (268 : Nat) ({ cls := "HashTreeSignerModel", name := "hashed", desc := "([BII[BI)V" } : Jvm.MethodName)) ∈ vGW := vGW_at 1400 (by decide +kernel) (by decide +kernel)
theorem vw_1402 : (Jvm.Cond.instanceMethod ({ cls := "HashTreeSignerModel", name := "hashed", desc := "([BII[BI)V" } : Jvm.MethodName)) ∈ vGW := vGW_at 1402 (by decide +kernel) (by decide +kernel)
theorem vs_37 : (Jvm.Cond.selects "HashTreeSignerModel" ({ cls := "HashTreeSignerModel", name := "hashed", desc := "([BII[BI)V" } : Jvm.MethodName) ({ cls := "HashTreeSignerModel", name := "hashed", desc := "([BII[BI)V" } : Jvm.MethodName)) ∈ vGW := vGW_sel 37 (by decide +kernel) (by decide +kernel)
set_option maxRecDepth 100000 in
theorem vw_1403 : (Jvm.Cond.code ({ cls := "HashTreeSignerModel", name := "hashed", desc := "([BII[BI)V" } : Jvm.MethodName) prog_14_method_47_code (8 : Nat) (Option.none : Option Jvm.ClassFile.FieldType)) ∈ vGW := vGW_at 1403 rfl rfl
theorem mX12_268 : vLV RX12 268 yX12_hashed cX12_hashed 8 none 5 9 := ⟨⟨_, rfl, rfl⟩, Or.inl vw_1400, vw_1402, vs_37, vw_15, vw_1403, ⟨by decide +kernel, by decide +kernel⟩, by decide +kernel⟩
theorem vw_1392 : (Jvm.Cond.methodLink "HashTreeSignerModel" (272 : Nat) ({ cls := "HashTreeSignerModel", name := "type", desc := "(IIII)V" } : Jvm.MethodName)) ∈ vGW := vGW_at 1392 (by decide +kernel) (by decide +kernel)
theorem vw_1394 : (Jvm.Cond.instanceMethod ({ cls := "HashTreeSignerModel", name := "type", desc := "(IIII)V" } : Jvm.MethodName)) ∈ vGW := vGW_at 1394 (by decide +kernel) (by decide +kernel)
theorem vs_35 : (Jvm.Cond.selects "HashTreeSignerModel" ({ cls := "HashTreeSignerModel", name := "type", desc := "(IIII)V" } : Jvm.MethodName) ({ cls := "HashTreeSignerModel", name := "type", desc := "(IIII)V" } : Jvm.MethodName)) ∈ vGW := vGW_sel 35 (by decide +kernel) (by decide +kernel)
set_option maxRecDepth 100000 in
theorem vw_1395 : (Jvm.Cond.code ({ cls := "HashTreeSignerModel", name := "type", desc := "(IIII)V" } : Jvm.MethodName) prog_14_method_46_code (6 : Nat) (Option.none : Option Jvm.ClassFile.FieldType)) ∈ vGW := vGW_at 1395 rfl rfl
theorem mX12_272 : vLV RX12 272 yX12_type cX12_type 6 none 4 9 := ⟨⟨_, rfl, rfl⟩, Or.inl vw_1392, vw_1394, vs_35, vw_15, vw_1395, ⟨by decide +kernel, by decide +kernel⟩, by decide +kernel⟩
theorem vw_1396 : (Jvm.Cond.methodLink "HashTreeSignerModel" (276 : Nat) ({ cls := "HashTreeSignerModel", name := "pseudo", desc := "([BI)V" } : Jvm.MethodName)) ∈ vGW := vGW_at 1396 (by decide +kernel) (by decide +kernel)
theorem vw_1398 : (Jvm.Cond.instanceMethod ({ cls := "HashTreeSignerModel", name := "pseudo", desc := "([BI)V" } : Jvm.MethodName)) ∈ vGW := vGW_at 1398 (by decide +kernel) (by decide +kernel)
theorem vs_36 : (Jvm.Cond.selects "HashTreeSignerModel" ({ cls := "HashTreeSignerModel", name := "pseudo", desc := "([BI)V" } : Jvm.MethodName) ({ cls := "HashTreeSignerModel", name := "pseudo", desc := "([BI)V" } : Jvm.MethodName)) ∈ vGW := vGW_sel 36 (by decide +kernel) (by decide +kernel)
set_option maxRecDepth 100000 in
theorem vw_1399 : (Jvm.Cond.code ({ cls := "HashTreeSignerModel", name := "pseudo", desc := "([BI)V" } : Jvm.MethodName) prog_14_method_48_code (3 : Nat) (Option.none : Option Jvm.ClassFile.FieldType)) ∈ vGW := vGW_at 1399 rfl rfl
theorem mX12_276 : vLV RX12 276 yX12_pseudo cX12_pseudo 3 none 2 9 := ⟨⟨_, rfl, rfl⟩, Or.inl vw_1396, vw_1398, vs_36, vw_15, vw_1399, ⟨by decide +kernel, by decide +kernel⟩, by decide +kernel⟩
theorem vw_1416 : (Jvm.Cond.methodLink "HashTreeSignerModel" (280 : Nat) ({ cls := "HashTreeSignerModel", name := "chain", desc := "(IIII[BI)V" } : Jvm.MethodName)) ∈ vGW := vGW_at 1416 (by decide +kernel) (by decide +kernel)
theorem vw_1418 : (Jvm.Cond.instanceMethod ({ cls := "HashTreeSignerModel", name := "chain", desc := "(IIII[BI)V" } : Jvm.MethodName)) ∈ vGW := vGW_at 1418 (by decide +kernel) (by decide +kernel)
theorem vs_41 : (Jvm.Cond.selects "HashTreeSignerModel" ({ cls := "HashTreeSignerModel", name := "chain", desc := "(IIII[BI)V" } : Jvm.MethodName) ({ cls := "HashTreeSignerModel", name := "chain", desc := "(IIII[BI)V" } : Jvm.MethodName)) ∈ vGW := vGW_sel 41 (by decide +kernel) (by decide +kernel)
set_option maxRecDepth 100000 in
theorem vw_1419 : (Jvm.Cond.code ({ cls := "HashTreeSignerModel", name := "chain", desc := "(IIII[BI)V" } : Jvm.MethodName) prog_14_method_49_code (8 : Nat) (Option.none : Option Jvm.ClassFile.FieldType)) ∈ vGW := vGW_at 1419 rfl rfl
theorem mX12_280 : vLV RX12 280 yX12_chain cX12_chain 8 none 6 9 := ⟨⟨_, rfl, rfl⟩, Or.inl vw_1416, vw_1418, vs_41, vw_15, vw_1419, ⟨by decide +kernel, by decide +kernel⟩, by decide +kernel⟩
theorem vw_1388 : (Jvm.Cond.methodLink "HashTreeSignerModel" (284 : Nat) ({ cls := "HashTreeSignerModel", name := "leaf", desc := "(I[BI)V" } : Jvm.MethodName)) ∈ vGW := vGW_at 1388 (by decide +kernel) (by decide +kernel)
theorem vw_1390 : (Jvm.Cond.instanceMethod ({ cls := "HashTreeSignerModel", name := "leaf", desc := "(I[BI)V" } : Jvm.MethodName)) ∈ vGW := vGW_at 1390 (by decide +kernel) (by decide +kernel)
theorem vs_34 : (Jvm.Cond.selects "HashTreeSignerModel" ({ cls := "HashTreeSignerModel", name := "leaf", desc := "(I[BI)V" } : Jvm.MethodName) ({ cls := "HashTreeSignerModel", name := "leaf", desc := "(I[BI)V" } : Jvm.MethodName)) ∈ vGW := vGW_sel 34 (by decide +kernel) (by decide +kernel)
set_option maxRecDepth 100000 in
theorem vw_1391 : (Jvm.Cond.code ({ cls := "HashTreeSignerModel", name := "leaf", desc := "(I[BI)V" } : Jvm.MethodName) prog_14_method_50_code (5 : Nat) (Option.none : Option Jvm.ClassFile.FieldType)) ∈ vGW := vGW_at 1391 rfl rfl
theorem mX12_284 : vLV RX12 284 yX12_leaf cX12_leaf 5 none 3 9 := ⟨⟨_, rfl, rfl⟩, Or.inl vw_1388, vw_1390, vs_34, vw_15, vw_1391, ⟨by decide +kernel, by decide +kernel⟩, by decide +kernel⟩
theorem vw_1384 : (Jvm.Cond.methodLink "HashTreeSignerModel" (288 : Nat) ({ cls := "HashTreeSignerModel", name := "node", desc := "(II[BI)V" } : Jvm.MethodName)) ∈ vGW := vGW_at 1384 (by decide +kernel) (by decide +kernel)
theorem vw_1386 : (Jvm.Cond.instanceMethod ({ cls := "HashTreeSignerModel", name := "node", desc := "(II[BI)V" } : Jvm.MethodName)) ∈ vGW := vGW_at 1386 (by decide +kernel) (by decide +kernel)
theorem vs_33 : (Jvm.Cond.selects "HashTreeSignerModel" ({ cls := "HashTreeSignerModel", name := "node", desc := "(II[BI)V" } : Jvm.MethodName) ({ cls := "HashTreeSignerModel", name := "node", desc := "(II[BI)V" } : Jvm.MethodName)) ∈ vGW := vGW_sel 33 (by decide +kernel) (by decide +kernel)
set_option maxRecDepth 100000 in
theorem vw_1387 : (Jvm.Cond.code ({ cls := "HashTreeSignerModel", name := "node", desc := "(II[BI)V" } : Jvm.MethodName) prog_14_method_51_code (6 : Nat) (Option.none : Option Jvm.ClassFile.FieldType)) ∈ vGW := vGW_at 1387 rfl rfl
theorem mX12_288 : vLV RX12 288 yX12_node cX12_node 6 none 4 9 := ⟨⟨_, rfl, rfl⟩, Or.inl vw_1384, vw_1386, vs_33, vw_15, vw_1387, ⟨by decide +kernel, by decide +kernel⟩, by decide +kernel⟩
theorem vw_1488 : (Jvm.Cond.methodLink "HashTreeSignerModel" (292 : Nat) ({ cls := "HashTreeSignerModel", name := "digitsOf", desc := "([BI)V" } : Jvm.MethodName)) ∈ vGW := vGW_at 1488 (by decide +kernel) (by decide +kernel)
theorem vw_1490 : (Jvm.Cond.instanceMethod ({ cls := "HashTreeSignerModel", name := "digitsOf", desc := "([BI)V" } : Jvm.MethodName)) ∈ vGW := vGW_at 1490 (by decide +kernel) (by decide +kernel)
theorem vs_58 : (Jvm.Cond.selects "HashTreeSignerModel" ({ cls := "HashTreeSignerModel", name := "digitsOf", desc := "([BI)V" } : Jvm.MethodName) ({ cls := "HashTreeSignerModel", name := "digitsOf", desc := "([BI)V" } : Jvm.MethodName)) ∈ vGW := vGW_sel 58 (by decide +kernel) (by decide +kernel)
set_option maxRecDepth 100000 in
theorem vw_1491 : (Jvm.Cond.code ({ cls := "HashTreeSignerModel", name := "digitsOf", desc := "([BI)V" } : Jvm.MethodName) prog_14_method_52_code (5 : Nat) (Option.none : Option Jvm.ClassFile.FieldType)) ∈ vGW := vGW_at 1491 rfl rfl
theorem mX12_292 : vLV RX12 292 yX12_digitsOf cX12_digitsOf 5 none 2 9 := ⟨⟨_, rfl, rfl⟩, Or.inl vw_1488, vw_1490, vs_58, vw_15, vw_1491, ⟨by decide +kernel, by decide +kernel⟩, by decide +kernel⟩
theorem vw_1480 : (Jvm.Cond.methodLink "HashTreeSignerModel" (295 : Nat) ({ cls := "HashTreeSignerModel", name := "climb", desc := "(IIII[BI)V" } : Jvm.MethodName)) ∈ vGW := vGW_at 1480 (by decide +kernel) (by decide +kernel)
theorem vw_1482 : (Jvm.Cond.instanceMethod ({ cls := "HashTreeSignerModel", name := "climb", desc := "(IIII[BI)V" } : Jvm.MethodName)) ∈ vGW := vGW_at 1482 (by decide +kernel) (by decide +kernel)
theorem vs_56 : (Jvm.Cond.selects "HashTreeSignerModel" ({ cls := "HashTreeSignerModel", name := "climb", desc := "(IIII[BI)V" } : Jvm.MethodName) ({ cls := "HashTreeSignerModel", name := "climb", desc := "(IIII[BI)V" } : Jvm.MethodName)) ∈ vGW := vGW_sel 56 (by decide +kernel) (by decide +kernel)
set_option maxRecDepth 100000 in
theorem vw_1483 : (Jvm.Cond.code ({ cls := "HashTreeSignerModel", name := "climb", desc := "(IIII[BI)V" } : Jvm.MethodName) prog_14_method_54_code (9 : Nat) (Option.none : Option Jvm.ClassFile.FieldType)) ∈ vGW := vGW_at 1483 rfl rfl
theorem mX12_295 : vLV RX12 295 yX12_climb cX12_climb 9 none 6 9 := ⟨⟨_, rfl, rfl⟩, Or.inl vw_1480, vw_1482, vs_56, vw_15, vw_1483, ⟨by decide +kernel, by decide +kernel⟩, by decide +kernel⟩
theorem vw_1472 : (Jvm.Cond.methodLink "HashTreeSignerModel" (298 : Nat) ({ cls := "HashTreeSignerModel", name := "forestNode", desc := "(III[BI)V" } : Jvm.MethodName)) ∈ vGW := vGW_at 1472 (by decide +kernel) (by decide +kernel)
theorem vw_1474 : (Jvm.Cond.instanceMethod ({ cls := "HashTreeSignerModel", name := "forestNode", desc := "(III[BI)V" } : Jvm.MethodName)) ∈ vGW := vGW_at 1474 (by decide +kernel) (by decide +kernel)
theorem vs_54 : (Jvm.Cond.selects "HashTreeSignerModel" ({ cls := "HashTreeSignerModel", name := "forestNode", desc := "(III[BI)V" } : Jvm.MethodName) ({ cls := "HashTreeSignerModel", name := "forestNode", desc := "(III[BI)V" } : Jvm.MethodName)) ∈ vGW := vGW_sel 54 (by decide +kernel) (by decide +kernel)
set_option maxRecDepth 100000 in
theorem vw_1475 : (Jvm.Cond.code ({ cls := "HashTreeSignerModel", name := "forestNode", desc := "(III[BI)V" } : Jvm.MethodName) prog_14_method_56_code (7 : Nat) (Option.none : Option Jvm.ClassFile.FieldType)) ∈ vGW := vGW_at 1475 rfl rfl
theorem mX12_298 : vLV RX12 298 yX12_forestNode cX12_forestNode 7 none 5 9 := ⟨⟨_, rfl, rfl⟩, Or.inl vw_1472, vw_1474, vs_54, vw_15, vw_1475, ⟨by decide +kernel, by decide +kernel⟩, by decide +kernel⟩
theorem vw_1468 : (Jvm.Cond.methodLink "HashTreeSignerModel" (302 : Nat) ({ cls := "HashTreeSignerModel", name := "numberOf", desc := "(I)I" } : Jvm.MethodName)) ∈ vGW := vGW_at 1468 (by decide +kernel) (by decide +kernel)
theorem vw_1470 : (Jvm.Cond.instanceMethod ({ cls := "HashTreeSignerModel", name := "numberOf", desc := "(I)I" } : Jvm.MethodName)) ∈ vGW := vGW_at 1470 (by decide +kernel) (by decide +kernel)
theorem vs_53 : (Jvm.Cond.selects "HashTreeSignerModel" ({ cls := "HashTreeSignerModel", name := "numberOf", desc := "(I)I" } : Jvm.MethodName) ({ cls := "HashTreeSignerModel", name := "numberOf", desc := "(I)I" } : Jvm.MethodName)) ∈ vGW := vGW_sel 53 (by decide +kernel) (by decide +kernel)
set_option maxRecDepth 100000 in
theorem vw_1471 : (Jvm.Cond.code ({ cls := "HashTreeSignerModel", name := "numberOf", desc := "(I)I" } : Jvm.MethodName) prog_14_method_57_code (4 : Nat) (Option.some Jvm.ClassFile.FieldType.int)) ∈ vGW := vGW_at 1471 rfl rfl
theorem mX12_302 : vLV RX12 302 yX12_numberOf cX12_numberOf 4 (some .int) 1 9 := ⟨⟨_, rfl, rfl⟩, Or.inl vw_1468, vw_1470, vs_53, vw_15, vw_1471, ⟨by decide +kernel, by decide +kernel⟩, by decide +kernel⟩
theorem vw_1428 : (Jvm.Cond.methodLink "HashTreeSignerModel" (305 : Nat) ({ cls := "HashTreeSignerModel", name := "before", desc := "(I)V" } : Jvm.MethodName)) ∈ vGW := vGW_at 1428 (by decide +kernel) (by decide +kernel)
theorem vw_1430 : (Jvm.Cond.instanceMethod ({ cls := "HashTreeSignerModel", name := "before", desc := "(I)V" } : Jvm.MethodName)) ∈ vGW := vGW_at 1430 (by decide +kernel) (by decide +kernel)
theorem vs_43 : (Jvm.Cond.selects "HashTreeSignerModel" ({ cls := "HashTreeSignerModel", name := "before", desc := "(I)V" } : Jvm.MethodName) ({ cls := "HashTreeSignerModel", name := "before", desc := "(I)V" } : Jvm.MethodName)) ∈ vGW := vGW_sel 43 (by decide +kernel) (by decide +kernel)
set_option maxRecDepth 100000 in
theorem vw_1431 : (Jvm.Cond.code ({ cls := "HashTreeSignerModel", name := "before", desc := "(I)V" } : Jvm.MethodName) prog_14_method_41_code (2 : Nat) (Option.none : Option Jvm.ClassFile.FieldType)) ∈ vGW := vGW_at 1431 rfl rfl
theorem mX12_305 : vLV RX12 305 yX12_before cX12_before 2 none 1 9 := ⟨⟨_, rfl, rfl⟩, Or.inl vw_1428, vw_1430, vs_43, vw_15, vw_1431, ⟨by decide +kernel, by decide +kernel⟩, by decide +kernel⟩
theorem vw_1432 : (Jvm.Cond.methodLink "HashTreeSignerModel" (308 : Nat) ({ cls := "HashTreeSignerModel", name := "large", desc := "()I" } : Jvm.MethodName)) ∈ vGW := vGW_at 1432 (by decide +kernel) (by decide +kernel)
theorem vw_1434 : (Jvm.Cond.instanceMethod ({ cls := "HashTreeSignerModel", name := "large", desc := "()I" } : Jvm.MethodName)) ∈ vGW := vGW_at 1434 (by decide +kernel) (by decide +kernel)
theorem vs_44 : (Jvm.Cond.selects "HashTreeSignerModel" ({ cls := "HashTreeSignerModel", name := "large", desc := "()I" } : Jvm.MethodName) ({ cls := "HashTreeSignerModel", name := "large", desc := "()I" } : Jvm.MethodName)) ∈ vGW := vGW_sel 44 (by decide +kernel) (by decide +kernel)
set_option maxRecDepth 100000 in
theorem vw_1435 : (Jvm.Cond.code ({ cls := "HashTreeSignerModel", name := "large", desc := "()I" } : Jvm.MethodName) prog_14_method_60_code (1 : Nat) (Option.some Jvm.ClassFile.FieldType.int)) ∈ vGW := vGW_at 1435 rfl rfl
theorem mX12_308 : vLV RX12 308 yX12_large cX12_large 1 (some .int) 0 9 := ⟨⟨_, rfl, rfl⟩, Or.inl vw_1432, vw_1434, vs_44, vw_15, vw_1435, ⟨by decide +kernel, by decide +kernel⟩, by decide +kernel⟩
theorem vw_1440 : (Jvm.Cond.methodLink "HashTreeSignerModel" (311 : Nat) ({ cls := "HashTreeSignerModel", name := "putSigned", desc := "(I)V" } : Jvm.MethodName)) ∈ vGW := vGW_at 1440 (by decide +kernel) (by decide +kernel)
theorem vw_1442 : (Jvm.Cond.instanceMethod ({ cls := "HashTreeSignerModel", name := "putSigned", desc := "(I)V" } : Jvm.MethodName)) ∈ vGW := vGW_at 1442 (by decide +kernel) (by decide +kernel)
theorem vs_46 : (Jvm.Cond.selects "HashTreeSignerModel" ({ cls := "HashTreeSignerModel", name := "putSigned", desc := "(I)V" } : Jvm.MethodName) ({ cls := "HashTreeSignerModel", name := "putSigned", desc := "(I)V" } : Jvm.MethodName)) ∈ vGW := vGW_sel 46 (by decide +kernel) (by decide +kernel)
set_option maxRecDepth 100000 in
theorem vw_1443 : (Jvm.Cond.code ({ cls := "HashTreeSignerModel", name := "putSigned", desc := "(I)V" } : Jvm.MethodName) prog_14_method_42_code (2 : Nat) (Option.none : Option Jvm.ClassFile.FieldType)) ∈ vGW := vGW_at 1443 rfl rfl
theorem mX12_311 : vLV RX12 311 yX12_putSigned cX12_putSigned 2 none 1 9 := ⟨⟨_, rfl, rfl⟩, Or.inl vw_1440, vw_1442, vs_46, vw_15, vw_1443, ⟨by decide +kernel, by decide +kernel⟩, by decide +kernel⟩
theorem vw_1452 : (Jvm.Cond.methodLink "HashTreeSignerModel" (314 : Nat) ({ cls := "HashTreeSignerModel", name := "mask", desc := "(I[BI[BII)V" } : Jvm.MethodName)) ∈ vGW := vGW_at 1452 (by decide +kernel) (by decide +kernel)
theorem vw_1454 : (Jvm.Cond.instanceMethod ({ cls := "HashTreeSignerModel", name := "mask", desc := "(I[BI[BII)V" } : Jvm.MethodName)) ∈ vGW := vGW_at 1454 (by decide +kernel) (by decide +kernel)
theorem vs_49 : (Jvm.Cond.selects "HashTreeSignerModel" ({ cls := "HashTreeSignerModel", name := "mask", desc := "(I[BI[BII)V" } : Jvm.MethodName) ({ cls := "HashTreeSignerModel", name := "mask", desc := "(I[BI[BII)V" } : Jvm.MethodName)) ∈ vGW := vGW_sel 49 (by decide +kernel) (by decide +kernel)
set_option maxRecDepth 100000 in
theorem vw_1455 : (Jvm.Cond.code ({ cls := "HashTreeSignerModel", name := "mask", desc := "(I[BI[BII)V" } : Jvm.MethodName) prog_14_method_40_code (10 : Nat) (Option.none : Option Jvm.ClassFile.FieldType)) ∈ vGW := vGW_at 1455 rfl rfl
theorem mX12_314 : vLV RX12 314 yX12_mask cX12_mask 10 none 6 9 := ⟨⟨_, rfl, rfl⟩, Or.inl vw_1452, vw_1454, vs_49, vw_15, vw_1455, ⟨by decide +kernel, by decide +kernel⟩, by decide +kernel⟩
theorem vw_1373 : (Jvm.Cond.methodLink "HashTreeSignerModel" (318 : Nat) ({ cls := "HashTreeSignerModel", name := "slh", desc := "(I)V" } : Jvm.MethodName)) ∈ vGW := vGW_at 1373 (by decide +kernel) (by decide +kernel)
theorem vw_1375 : (Jvm.Cond.instanceMethod ({ cls := "HashTreeSignerModel", name := "slh", desc := "(I)V" } : Jvm.MethodName)) ∈ vGW := vGW_at 1375 (by decide +kernel) (by decide +kernel)
theorem vs_31 : (Jvm.Cond.selects "HashTreeSignerModel" ({ cls := "HashTreeSignerModel", name := "slh", desc := "(I)V" } : Jvm.MethodName) ({ cls := "HashTreeSignerModel", name := "slh", desc := "(I)V" } : Jvm.MethodName)) ∈ vGW := vGW_sel 31 (by decide +kernel) (by decide +kernel)
set_option maxRecDepth 100000 in
theorem vw_1376 : (Jvm.Cond.code ({ cls := "HashTreeSignerModel", name := "slh", desc := "(I)V" } : Jvm.MethodName) prog_14_method_44_code (4 : Nat) (Option.none : Option Jvm.ClassFile.FieldType)) ∈ vGW := vGW_at 1376 rfl rfl
theorem mX12_318 : vLV RX12 318 yX12_slh cX12_slh 4 none 1 9 := ⟨⟨_, rfl, rfl⟩, Or.inl vw_1373, vw_1375, vs_31, vw_15, vw_1376, ⟨by decide +kernel, by decide +kernel⟩, by decide +kernel⟩
theorem vw_1380 : (Jvm.Cond.methodLink "HashTreeSignerModel" (321 : Nat) ({ cls := "HashTreeSignerModel", name := "place", desc := "(IJ)V" } : Jvm.MethodName)) ∈ vGW := vGW_at 1380 (by decide +kernel) (by decide +kernel)
theorem vw_1382 : (Jvm.Cond.instanceMethod ({ cls := "HashTreeSignerModel", name := "place", desc := "(IJ)V" } : Jvm.MethodName)) ∈ vGW := vGW_at 1382 (by decide +kernel) (by decide +kernel)
theorem vs_32 : (Jvm.Cond.selects "HashTreeSignerModel" ({ cls := "HashTreeSignerModel", name := "place", desc := "(IJ)V" } : Jvm.MethodName) ({ cls := "HashTreeSignerModel", name := "place", desc := "(IJ)V" } : Jvm.MethodName)) ∈ vGW := vGW_sel 32 (by decide +kernel) (by decide +kernel)
set_option maxRecDepth 100000 in
theorem vw_1383 : (Jvm.Cond.code ({ cls := "HashTreeSignerModel", name := "place", desc := "(IJ)V" } : Jvm.MethodName) prog_14_method_45_code (5 : Nat) (Option.none : Option Jvm.ClassFile.FieldType)) ∈ vGW := vGW_at 1383 rfl rfl
theorem mX12_321 : vLV RX12 321 yX12_place cX12_place 5 none 2 9 := ⟨⟨_, rfl, rfl⟩, Or.inl vw_1380, vw_1382, vs_32, vw_15, vw_1383, ⟨by decide +kernel, by decide +kernel⟩, by decide +kernel⟩
theorem vw_1424 : (Jvm.Cond.methodLink "HashTreeSignerModel" (325 : Nat) ({ cls := "HashTreeSignerModel", name := "context", desc := "(I)Z" } : Jvm.MethodName)) ∈ vGW := vGW_at 1424 (by decide +kernel) (by decide +kernel)
theorem vw_1426 : (Jvm.Cond.instanceMethod ({ cls := "HashTreeSignerModel", name := "context", desc := "(I)Z" } : Jvm.MethodName)) ∈ vGW := vGW_at 1426 (by decide +kernel) (by decide +kernel)
theorem vs_42 : (Jvm.Cond.selects "HashTreeSignerModel" ({ cls := "HashTreeSignerModel", name := "context", desc := "(I)Z" } : Jvm.MethodName) ({ cls := "HashTreeSignerModel", name := "context", desc := "(I)Z" } : Jvm.MethodName)) ∈ vGW := vGW_sel 42 (by decide +kernel) (by decide +kernel)
set_option maxRecDepth 100000 in
theorem vw_1427 : (Jvm.Cond.code ({ cls := "HashTreeSignerModel", name := "context", desc := "(I)Z" } : Jvm.MethodName) prog_14_method_43_code (2 : Nat) (Option.some Jvm.ClassFile.FieldType.boolean)) ∈ vGW := vGW_at 1427 rfl rfl
theorem mX12_325 : vLV RX12 325 yX12_context cX12_context 2 (some .boolean) 1 9 := ⟨⟨_, rfl, rfl⟩, Or.inl vw_1424, vw_1426, vs_42, vw_15, vw_1427, ⟨by decide +kernel, by decide +kernel⟩, by decide +kernel⟩
theorem vw_1436 : (Jvm.Cond.methodLink "HashTreeSignerModel" (328 : Nat) ({ cls := "HashTreeSignerModel", name := "startMac", desc := "(I[BII)V" } : Jvm.MethodName)) ∈ vGW := vGW_at 1436 (by decide +kernel) (by decide +kernel)
theorem vw_1438 : (Jvm.Cond.instanceMethod ({ cls := "HashTreeSignerModel", name := "startMac", desc := "(I[BII)V" } : Jvm.MethodName)) ∈ vGW := vGW_at 1438 (by decide +kernel) (by decide +kernel)
theorem vs_45 : (Jvm.Cond.selects "HashTreeSignerModel" ({ cls := "HashTreeSignerModel", name := "startMac", desc := "(I[BII)V" } : Jvm.MethodName) ({ cls := "HashTreeSignerModel", name := "startMac", desc := "(I[BII)V" } : Jvm.MethodName)) ∈ vGW := vGW_sel 45 (by decide +kernel) (by decide +kernel)
set_option maxRecDepth 100000 in
theorem vw_1439 : (Jvm.Cond.code ({ cls := "HashTreeSignerModel", name := "startMac", desc := "(I[BII)V" } : Jvm.MethodName) prog_14_method_38_code (7 : Nat) (Option.none : Option Jvm.ClassFile.FieldType)) ∈ vGW := vGW_at 1439 rfl rfl
theorem mX12_328 : vLV RX12 328 yX12_startMac cX12_startMac 7 none 4 9 := ⟨⟨_, rfl, rfl⟩, Or.inl vw_1436, vw_1438, vs_45, vw_15, vw_1439, ⟨by decide +kernel, by decide +kernel⟩, by decide +kernel⟩
theorem vw_1444 : (Jvm.Cond.methodLink "HashTreeSignerModel" (332 : Nat) ({ cls := "HashTreeSignerModel", name := "endMac", desc := "(I[BII)V" } : Jvm.MethodName)) ∈ vGW := vGW_at 1444 (by decide +kernel) (by decide +kernel)
theorem vw_1446 : (Jvm.Cond.instanceMethod ({ cls := "HashTreeSignerModel", name := "endMac", desc := "(I[BII)V" } : Jvm.MethodName)) ∈ vGW := vGW_at 1446 (by decide +kernel) (by decide +kernel)
theorem vs_47 : (Jvm.Cond.selects "HashTreeSignerModel" ({ cls := "HashTreeSignerModel", name := "endMac", desc := "(I[BII)V" } : Jvm.MethodName) ({ cls := "HashTreeSignerModel", name := "endMac", desc := "(I[BII)V" } : Jvm.MethodName)) ∈ vGW := vGW_sel 47 (by decide +kernel) (by decide +kernel)
set_option maxRecDepth 100000 in
theorem vw_1447 : (Jvm.Cond.code ({ cls := "HashTreeSignerModel", name := "endMac", desc := "(I[BII)V" } : Jvm.MethodName) prog_14_method_39_code (7 : Nat) (Option.none : Option Jvm.ClassFile.FieldType)) ∈ vGW := vGW_at 1447 rfl rfl
theorem mX12_332 : vLV RX12 332 yX12_endMac cX12_endMac 7 none 4 9 := ⟨⟨_, rfl, rfl⟩, Or.inl vw_1444, vw_1446, vs_47, vw_15, vw_1447, ⟨by decide +kernel, by decide +kernel⟩, by decide +kernel⟩
theorem vw_1448 : (Jvm.Cond.methodLink "HashTreeSignerModel" (335 : Nat) ({ cls := "HashTreeSignerModel", name := "digestTree", desc := "([BII)V" } : Jvm.MethodName)) ∈ vGW := vGW_at 1448 (by decide +kernel) (by decide +kernel)
theorem vw_1450 : (Jvm.Cond.instanceMethod ({ cls := "HashTreeSignerModel", name := "digestTree", desc := "([BII)V" } : Jvm.MethodName)) ∈ vGW := vGW_at 1450 (by decide +kernel) (by decide +kernel)
theorem vs_48 : (Jvm.Cond.selects "HashTreeSignerModel" ({ cls := "HashTreeSignerModel", name := "digestTree", desc := "([BII)V" } : Jvm.MethodName) ({ cls := "HashTreeSignerModel", name := "digestTree", desc := "([BII)V" } : Jvm.MethodName)) ∈ vGW := vGW_sel 48 (by decide +kernel) (by decide +kernel)
set_option maxRecDepth 100000 in
theorem vw_1451 : (Jvm.Cond.code ({ cls := "HashTreeSignerModel", name := "digestTree", desc := "([BII)V" } : Jvm.MethodName) prog_14_method_61_code (6 : Nat) (Option.none : Option Jvm.ClassFile.FieldType)) ∈ vGW := vGW_at 1451 rfl rfl
theorem mX12_335 : vLV RX12 335 yX12_digestTree cX12_digestTree 6 none 3 9 := ⟨⟨_, rfl, rfl⟩, Or.inl vw_1448, vw_1450, vs_48, vw_15, vw_1451, ⟨by decide +kernel, by decide +kernel⟩, by decide +kernel⟩
theorem vw_1456 : (Jvm.Cond.methodLink "HashTreeSignerModel" (338 : Nat) ({ cls := "HashTreeSignerModel", name := "treeNumber", desc := "()J" } : Jvm.MethodName)) ∈ vGW := vGW_at 1456 (by decide +kernel) (by decide +kernel)
theorem vw_1458 : (Jvm.Cond.instanceMethod ({ cls := "HashTreeSignerModel", name := "treeNumber", desc := "()J" } : Jvm.MethodName)) ∈ vGW := vGW_at 1458 (by decide +kernel) (by decide +kernel)
theorem vs_50 : (Jvm.Cond.selects "HashTreeSignerModel" ({ cls := "HashTreeSignerModel", name := "treeNumber", desc := "()J" } : Jvm.MethodName) ({ cls := "HashTreeSignerModel", name := "treeNumber", desc := "()J" } : Jvm.MethodName)) ∈ vGW := vGW_sel 50 (by decide +kernel) (by decide +kernel)
set_option maxRecDepth 100000 in
theorem vw_1459 : (Jvm.Cond.code ({ cls := "HashTreeSignerModel", name := "treeNumber", desc := "()J" } : Jvm.MethodName) prog_14_method_62_code (6 : Nat) (Option.some Jvm.ClassFile.FieldType.long)) ∈ vGW := vGW_at 1459 rfl rfl
theorem mX12_338 : vLV RX12 338 yX12_treeNumber cX12_treeNumber 6 (some .long) 0 9 := ⟨⟨_, rfl, rfl⟩, Or.inl vw_1456, vw_1458, vs_50, vw_15, vw_1459, ⟨by decide +kernel, by decide +kernel⟩, by decide +kernel⟩
theorem vw_1460 : (Jvm.Cond.methodLink "HashTreeSignerModel" (342 : Nat) ({ cls := "HashTreeSignerModel", name := "pairNumber", desc := "()I" } : Jvm.MethodName)) ∈ vGW := vGW_at 1460 (by decide +kernel) (by decide +kernel)
theorem vw_1462 : (Jvm.Cond.instanceMethod ({ cls := "HashTreeSignerModel", name := "pairNumber", desc := "()I" } : Jvm.MethodName)) ∈ vGW := vGW_at 1462 (by decide +kernel) (by decide +kernel)
theorem vs_51 : (Jvm.Cond.selects "HashTreeSignerModel" ({ cls := "HashTreeSignerModel", name := "pairNumber", desc := "()I" } : Jvm.MethodName) ({ cls := "HashTreeSignerModel", name := "pairNumber", desc := "()I" } : Jvm.MethodName)) ∈ vGW := vGW_sel 51 (by decide +kernel) (by decide +kernel)
set_option maxRecDepth 100000 in
theorem vw_1463 : (Jvm.Cond.code ({ cls := "HashTreeSignerModel", name := "pairNumber", desc := "()I" } : Jvm.MethodName) prog_14_method_63_code (5 : Nat) (Option.some Jvm.ClassFile.FieldType.int)) ∈ vGW := vGW_at 1463 rfl rfl
theorem mX12_342 : vLV RX12 342 yX12_pairNumber cX12_pairNumber 5 (some .int) 0 9 := ⟨⟨_, rfl, rfl⟩, Or.inl vw_1460, vw_1462, vs_51, vw_15, vw_1463, ⟨by decide +kernel, by decide +kernel⟩, by decide +kernel⟩
theorem vw_1464 : (Jvm.Cond.methodLink "HashTreeSignerModel" (345 : Nat) ({ cls := "HashTreeSignerModel", name := "signForest", desc := "(I[BI)V" } : Jvm.MethodName)) ∈ vGW := vGW_at 1464 (by decide +kernel) (by decide +kernel)
theorem vw_1466 : (Jvm.Cond.instanceMethod ({ cls := "HashTreeSignerModel", name := "signForest", desc := "(I[BI)V" } : Jvm.MethodName)) ∈ vGW := vGW_at 1466 (by decide +kernel) (by decide +kernel)
theorem vs_52 : (Jvm.Cond.selects "HashTreeSignerModel" ({ cls := "HashTreeSignerModel", name := "signForest", desc := "(I[BI)V" } : Jvm.MethodName) ({ cls := "HashTreeSignerModel", name := "signForest", desc := "(I[BI)V" } : Jvm.MethodName)) ∈ vGW := vGW_sel 52 (by decide +kernel) (by decide +kernel)
set_option maxRecDepth 100000 in
theorem vw_1467 : (Jvm.Cond.code ({ cls := "HashTreeSignerModel", name := "signForest", desc := "(I[BI)V" } : Jvm.MethodName) prog_14_method_58_code (8 : Nat) (Option.none : Option Jvm.ClassFile.FieldType)) ∈ vGW := vGW_at 1467 rfl rfl
theorem mX12_345 : vLV RX12 345 yX12_signForest cX12_signForest 8 none 3 9 := ⟨⟨_, rfl, rfl⟩, Or.inl vw_1464, vw_1466, vs_52, vw_15, vw_1467, ⟨by decide +kernel, by decide +kernel⟩, by decide +kernel⟩
theorem vw_1476 : (Jvm.Cond.methodLink "HashTreeSignerModel" (348 : Nat) ({ cls := "HashTreeSignerModel", name := "rootOfForest", desc := "(I[BI)V" } : Jvm.MethodName)) ∈ vGW := vGW_at 1476 (by decide +kernel) (by decide +kernel)
theorem vw_1478 : (Jvm.Cond.instanceMethod ({ cls := "HashTreeSignerModel", name := "rootOfForest", desc := "(I[BI)V" } : Jvm.MethodName)) ∈ vGW := vGW_at 1478 (by decide +kernel) (by decide +kernel)
theorem vs_55 : (Jvm.Cond.selects "HashTreeSignerModel" ({ cls := "HashTreeSignerModel", name := "rootOfForest", desc := "(I[BI)V" } : Jvm.MethodName) ({ cls := "HashTreeSignerModel", name := "rootOfForest", desc := "(I[BI)V" } : Jvm.MethodName)) ∈ vGW := vGW_sel 55 (by decide +kernel) (by decide +kernel)
set_option maxRecDepth 100000 in
theorem vw_1479 : (Jvm.Cond.code ({ cls := "HashTreeSignerModel", name := "rootOfForest", desc := "(I[BI)V" } : Jvm.MethodName) prog_14_method_59_code (7 : Nat) (Option.none : Option Jvm.ClassFile.FieldType)) ∈ vGW := vGW_at 1479 rfl rfl
theorem mX12_348 : vLV RX12 348 yX12_rootOfForest cX12_rootOfForest 7 none 3 9 := ⟨⟨_, rfl, rfl⟩, Or.inl vw_1476, vw_1478, vs_55, vw_15, vw_1479, ⟨by decide +kernel, by decide +kernel⟩, by decide +kernel⟩
theorem vw_1484 : (Jvm.Cond.methodLink "HashTreeSignerModel" (351 : Nat) ({ cls := "HashTreeSignerModel", name := "signTree", desc := "([BII[BI)V" } : Jvm.MethodName)) ∈ vGW := vGW_at 1484 (by decide +kernel) (by decide +kernel)
theorem vw_1486 : (Jvm.Cond.instanceMethod ({ cls := "HashTreeSignerModel", name := "signTree", desc := "([BII[BI)V" } : Jvm.MethodName)) ∈ vGW := vGW_at 1486 (by decide +kernel) (by decide +kernel)
theorem vs_57 : (Jvm.Cond.selects "HashTreeSignerModel" ({ cls := "HashTreeSignerModel", name := "signTree", desc := "([BII[BI)V" } : Jvm.MethodName) ({ cls := "HashTreeSignerModel", name := "signTree", desc := "([BII[BI)V" } : Jvm.MethodName)) ∈ vGW := vGW_sel 57 (by decide +kernel) (by decide +kernel)
set_option maxRecDepth 100000 in
theorem vw_1487 : (Jvm.Cond.code ({ cls := "HashTreeSignerModel", name := "signTree", desc := "([BII[BI)V" } : Jvm.MethodName) prog_14_method_53_code (7 : Nat) (Option.none : Option Jvm.ClassFile.FieldType)) ∈ vGW := vGW_at 1487 rfl rfl
theorem mX12_351 : vLV RX12 351 yX12_signTree cX12_signTree 7 none 5 9 := ⟨⟨_, rfl, rfl⟩, Or.inl vw_1484, vw_1486, vs_57, vw_15, vw_1487, ⟨by decide +kernel, by decide +kernel⟩, by decide +kernel⟩
theorem vw_1492 : (Jvm.Cond.methodLink "HashTreeSignerModel" (354 : Nat) ({ cls := "HashTreeSignerModel", name := "rootOf", desc := "(I[BI[BI)V" } : Jvm.MethodName)) ∈ vGW := vGW_at 1492 (by decide +kernel) (by decide +kernel)
theorem vw_1494 : (Jvm.Cond.instanceMethod ({ cls := "HashTreeSignerModel", name := "rootOf", desc := "(I[BI[BI)V" } : Jvm.MethodName)) ∈ vGW := vGW_at 1494 (by decide +kernel) (by decide +kernel)
theorem vs_59 : (Jvm.Cond.selects "HashTreeSignerModel" ({ cls := "HashTreeSignerModel", name := "rootOf", desc := "(I[BI[BI)V" } : Jvm.MethodName) ({ cls := "HashTreeSignerModel", name := "rootOf", desc := "(I[BI[BI)V" } : Jvm.MethodName)) ∈ vGW := vGW_sel 59 (by decide +kernel) (by decide +kernel)
set_option maxRecDepth 100000 in
theorem vw_1495 : (Jvm.Cond.code ({ cls := "HashTreeSignerModel", name := "rootOf", desc := "(I[BI[BI)V" } : Jvm.MethodName) prog_14_method_55_code (7 : Nat) (Option.none : Option Jvm.ClassFile.FieldType)) ∈ vGW := vGW_at 1495 rfl rfl
theorem mX12_354 : vLV RX12 354 yX12_rootOf cX12_rootOf 7 none 5 9 := ⟨⟨_, rfl, rfl⟩, Or.inl vw_1492, vw_1494, vs_59, vw_15, vw_1495, ⟨by decide +kernel, by decide +kernel⟩, by decide +kernel⟩
theorem vw_1500 : (Jvm.Cond.methodLink "HashTreeSignerModel" (358 : Nat) ({ cls := "HashTreeSignerModel", name := "alike", desc := "([BI[BII)Z" } : Jvm.MethodName)) ∈ vGW := vGW_at 1500 (by decide +kernel) (by decide +kernel)
theorem vw_1501 : (Jvm.Cond.static ({ cls := "HashTreeSignerModel", name := "alike", desc := "([BI[BII)Z" } : Jvm.MethodName)) ∈ vGW := vGW_at 1501 (by decide +kernel) (by decide +kernel)
set_option maxRecDepth 100000 in
theorem vw_1502 : (Jvm.Cond.code ({ cls := "HashTreeSignerModel", name := "alike", desc := "([BI[BII)Z" } : Jvm.MethodName) prog_14_method_15_code (7 : Nat) (Option.some Jvm.ClassFile.FieldType.boolean)) ∈ vGW := vGW_at 1502 rfl rfl
theorem mX12_358 : vLS RX12 358 yX12_alike cX12_alike 7 (some .boolean) 5 := ⟨Or.inl vw_1500, vw_1501, vw_15, vw_1502, ⟨by decide +kernel, by decide +kernel⟩, by decide +kernel⟩
theorem vw_459 : (Jvm.Cond.methodLink "java/util/Arrays" (13 : Nat) ({ cls := "java/util/Arrays", name := "rangeCheck", desc := "(III)V" } : Jvm.MethodName)) ∈ vGW := vGW_at 459 (by decide +kernel) (by decide +kernel)
theorem vw_460 : (Jvm.Cond.static ({ cls := "java/util/Arrays", name := "rangeCheck", desc := "(III)V" } : Jvm.MethodName)) ∈ vGW := vGW_at 460 (by decide +kernel) (by decide +kernel)
set_option maxRecDepth 100000 in
theorem vw_461 : (Jvm.Cond.code ({ cls := "java/util/Arrays", name := "rangeCheck", desc := "(III)V" } : Jvm.MethodName) prog_34_method_30_code (3 : Nat) (Option.none : Option Jvm.ClassFile.FieldType)) ∈ vGW := vGW_at 461 rfl rfl
theorem mJ7_13 : vLS RJ7 13 yJ7_rangeCheck_23922 cJ7_rangeCheck_23922 3 none 3 := ⟨Or.inl vw_459, vw_460, vw_10, vw_461, ⟨by decide +kernel, by decide +kernel⟩, by decide +kernel⟩
theorem vw_465 : (Jvm.Cond.methodLink "java/util/Arrays" (47 : Nat) ({ cls := "java/lang/StringBuilder", name := "<init>", desc := "()V" } : Jvm.MethodName)) ∈ vGW := vGW_at 465 (by decide +kernel) (by decide +kernel)
theorem vw_466 : (Jvm.Cond.instanceMethod ({ cls := "java/lang/StringBuilder", name := "<init>", desc := "()V" } : Jvm.MethodName)) ∈ vGW := vGW_at 466 (by decide +kernel) (by decide +kernel)
theorem vw_23 : (Jvm.Cond.initialized "java/lang/StringBuilder") ∈ vGW := vGW_at 23 (by decide +kernel) (by decide +kernel)
set_option maxRecDepth 100000 in
theorem vw_467 : (Jvm.Cond.code ({ cls := "java/lang/StringBuilder", name := "<init>", desc := "()V" } : Jvm.MethodName) prog_28_method_1_code (1 : Nat) (Option.none : Option Jvm.ClassFile.FieldType)) ∈ vGW := vGW_at 467 rfl rfl
theorem mJ7_47 : vLI RJ7 47 yJ4_init_da8c8 cJ4_init_da8c8 1 0 := ⟨Or.inl vw_465, vw_466, vw_23, vw_467, rfl, ⟨by decide +kernel, by decide +kernel⟩, by decide +kernel⟩
theorem vw_704 : (Jvm.Cond.methodLink "java/util/Arrays" (70 : Nat) ({ cls := "java/lang/ArrayIndexOutOfBoundsException", name := "<init>", desc := "(I)V" } : Jvm.MethodName)) ∈ vGW := vGW_at 704 (by decide +kernel) (by decide +kernel)
theorem vw_705 : (Jvm.Cond.instanceMethod ({ cls := "java/lang/ArrayIndexOutOfBoundsException", name := "<init>", desc := "(I)V" } : Jvm.MethodName)) ∈ vGW := vGW_at 705 (by decide +kernel) (by decide +kernel)
theorem vw_31 : (Jvm.Cond.initialized "java/lang/ArrayIndexOutOfBoundsException") ∈ vGW := vGW_at 31 (by decide +kernel) (by decide +kernel)
set_option maxRecDepth 100000 in
theorem vw_706 : (Jvm.Cond.code ({ cls := "java/lang/ArrayIndexOutOfBoundsException", name := "<init>", desc := "(I)V" } : Jvm.MethodName) prog_16_method_3_code (2 : Nat) (Option.none : Option Jvm.ClassFile.FieldType)) ∈ vGW := vGW_at 706 rfl rfl
theorem mJ7_70 : vLI RJ7 70 yJx00060_init_d00df cJx00060_init_d00df 2 1 := ⟨Or.inl vw_704, vw_705, vw_31, vw_706, rfl, ⟨by decide +kernel, by decide +kernel⟩, by decide +kernel⟩
theorem vw_535 : (Jvm.Cond.methodLink "java/util/Arrays" (304 : Nat) ({ cls := "java/lang/Math", name := "min", desc := "(II)I" } : Jvm.MethodName)) ∈ vGW := vGW_at 535 (by decide +kernel) (by decide +kernel)
theorem mJ7_304 : vLS RJ7 304 yJ9_min_7cf53 cJ9_min_7cf53 2 (some .int) 2 := ⟨Or.inl vw_535, vw_536, vw_27, vw_537, ⟨by decide +kernel, by decide +kernel⟩, by decide +kernel⟩
theorem vw_670 : (Jvm.Cond.methodLink "java/util/Arrays" (339 : Nat) ({ cls := "java/util/Arrays", name := "copyOfRangeByte", desc := "([BII)[B" } : Jvm.MethodName)) ∈ vGW := vGW_at 670 (by decide +kernel) (by decide +kernel)
theorem vw_671 : (Jvm.Cond.static ({ cls := "java/util/Arrays", name := "copyOfRangeByte", desc := "([BII)[B" } : Jvm.MethodName)) ∈ vGW := vGW_at 671 (by decide +kernel) (by decide +kernel)
set_option maxRecDepth 100000 in
theorem vw_672 : (Jvm.Cond.code ({ cls := "java/util/Arrays", name := "copyOfRangeByte", desc := "([BII)[B" } : Jvm.MethodName) prog_34_method_133_code (5 : Nat) (Option.some (Jvm.ClassFile.FieldType.array Jvm.ClassFile.FieldType.byte))) ∈ vGW := vGW_at 672 rfl rfl
theorem mJ7_339 : vLS RJ7 339 yJ7_copyOfRangeByte_39247 cJ7_copyOfRangeByte_39247 5 (some (.array .byte)) 3 := ⟨Or.inl vw_670, vw_671, vw_10, vw_672, ⟨by decide +kernel, by decide +kernel⟩, by decide +kernel⟩
theorem vw_673 : (Jvm.Cond.methodLink "java/util/Arrays" (343 : Nat) ({ cls := "java/util/Arrays", name := "checkLength", desc := "(II)V" } : Jvm.MethodName)) ∈ vGW := vGW_at 673 (by decide +kernel) (by decide +kernel)
theorem vw_674 : (Jvm.Cond.static ({ cls := "java/util/Arrays", name := "checkLength", desc := "(II)V" } : Jvm.MethodName)) ∈ vGW := vGW_at 674 (by decide +kernel) (by decide +kernel)
set_option maxRecDepth 100000 in
theorem vw_675 : (Jvm.Cond.code ({ cls := "java/util/Arrays", name := "checkLength", desc := "(II)V" } : Jvm.MethodName) prog_34_method_131_code (2 : Nat) (Option.none : Option Jvm.ClassFile.FieldType)) ∈ vGW := vGW_at 675 rfl rfl
theorem mJ7_343 : vLS RJ7 343 yJ7_checkLength_df160 cJ7_checkLength_df160 2 none 2 := ⟨Or.inl vw_673, vw_674, vw_10, vw_675, ⟨by decide +kernel, by decide +kernel⟩, by decide +kernel⟩
theorem vw_43 : (Jvm.Cond.constant "HashTreeSigner" (9 : Nat) (65536 : Int32)) ∈ vGW := vGW_at 43 (by decide +kernel) (by decide +kernel)
theorem vw_46 : (Jvm.Cond.constant "HashTreeSigner" (27 : Nat) (65793 : Int32)) ∈ vGW := vGW_at 46 (by decide +kernel) (by decide +kernel)
theorem vw_329 : (Jvm.Cond.constant "HashTreeSigner" (52 : Nat) (65516 : Int32)) ∈ vGW := vGW_at 329 (by decide +kernel) (by decide +kernel)
theorem vw_480 : (Jvm.Cond.constant "java/lang/StringUTF16" (20 : Nat) (1073741823 : Int32)) ∈ vGW := vGW_at 480 (by decide +kernel) (by decide +kernel)
theorem vw_520 : (Jvm.Cond.constant "jdk/internal/util/ArraysSupport" (200 : Nat) (2147483639 : Int32)) ∈ vGW := vGW_at 520 (by decide +kernel) (by decide +kernel)
theorem vw_524 : (Jvm.Cond.constant "java/lang/AbstractStringBuilder" (39 : Nat) (2147483647 : Int32)) ∈ vGW := vGW_at 524 (by decide +kernel) (by decide +kernel)
theorem vw_850 : (Jvm.Cond.constantLong "HashTreeSigner$Sha512" (26 : Nat) (-1 : Int64)) ∈ vGW := vGW_at 850 (by decide +kernel) (by decide +kernel)
theorem vw_905 : (Jvm.Cond.constantLong "HashTreeSigner$Sha2" (51 : Nat) (8 : Int64)) ∈ vGW := vGW_at 905 (by decide +kernel) (by decide +kernel)
theorem vw_920 : (Jvm.Cond.constantLong "HashTreeSigner$Sponge" (25 : Nat) (255 : Int64)) ∈ vGW := vGW_at 920 (by decide +kernel) (by decide +kernel)
theorem vw_928 : (Jvm.Cond.constantLong "HashTreeSigner$Sponge" (40 : Nat) (-1 : Int64)) ∈ vGW := vGW_at 928 (by decide +kernel) (by decide +kernel)
theorem vw_935 : (Jvm.Cond.constantLong "HashTreeSigner$Sponge" (30 : Nat) (31 : Int64)) ∈ vGW := vGW_at 935 (by decide +kernel) (by decide +kernel)
theorem vw_936 : (Jvm.Cond.constantLong "HashTreeSigner$Sponge" (32 : Nat) (-9223372036854775808 : Int64)) ∈ vGW := vGW_at 936 (by decide +kernel) (by decide +kernel)
theorem vw_1033 : (Jvm.Cond.constantLong "HashTreeSigner$Trees" (89 : Nat) (-1 : Int64)) ∈ vGW := vGW_at 1033 (by decide +kernel) (by decide +kernel)
theorem vw_1097 : (Jvm.Cond.constant "HashTreeSignerModel" (9 : Nat) (65536 : Int32)) ∈ vGW := vGW_at 1097 (by decide +kernel) (by decide +kernel)
theorem vw_1114 : (Jvm.Cond.constantLong "HashTreeSignerModel" (144 : Nat) (65535 : Int64)) ∈ vGW := vGW_at 1114 (by decide +kernel) (by decide +kernel)
theorem vw_1132 : (Jvm.Cond.constantLong "HashTreeSignerModel" (196 : Nat) (4294967295 : Int64)) ∈ vGW := vGW_at 1132 (by decide +kernel) (by decide +kernel)
theorem vw_1133 : (Jvm.Cond.constantLong "HashTreeSignerModel" (169 : Nat) (-6510615555426900571 : Int64)) ∈ vGW := vGW_at 1133 (by decide +kernel) (by decide +kernel)
theorem vw_1146 : (Jvm.Cond.constantLong "HashTreeSignerModel" (142 : Nat) (255 : Int64)) ∈ vGW := vGW_at 1146 (by decide +kernel) (by decide +kernel)
theorem vw_1154 : (Jvm.Cond.constantLong "HashTreeSignerModel" (219 : Nat) (-1 : Int64)) ∈ vGW := vGW_at 1154 (by decide +kernel) (by decide +kernel)
theorem vw_1173 : (Jvm.Cond.constantLong "HashTreeSignerModel" (227 : Nat) (8 : Int64)) ∈ vGW := vGW_at 1173 (by decide +kernel) (by decide +kernel)
