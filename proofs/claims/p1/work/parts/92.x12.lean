section RI2
variable {G : vG} {B : Nat} {l : Launch}
set_option maxRecDepth 100000 in
set_option maxHeartbeats 1000000 in
theorem k_X12 {o : Nat} {Lc : List (Nat × va_E)} (hF : lF (fun _ => none) Lc) (h0 : lB (fun _ => none) Lc o = none) (hlc : Lc.length = 27) : vOk G B l yX12_init cX12_init 1 none 9 59 662091 [.ref o] (vUp (lB (fun _ => none) Lc) o (eO 9 zX12)) (fun r w' => r = none ∧ ∃ (ad : Nat → Nat) (σ : nS), w' = nW ad 86 σ ∧ nI1 ad 86 ∧ RA G ad θc (fun _ => []) [] 0 σ ∧ ad 49 = o ∧ ∀ k, k < 12 → (ad (74 + k), σ (74 + k)) = lK Lc (([0, 26, 25, 24, 23, 22, 21, 20, 19, 18, 17, 16] : List Nat).getD k 0)) := by
  refine vOk.ofI (by decide +kernel) (Nat.le_of_ble_eq_true rfl) ?_
  intro p e s m args below meth c C hin
  have F : oF (fun _ => none) o 49 Lc zX12 := ⟨hF, h0, rfl⟩
  refine v_eq (lv' := [(0, .ref o)]) rfl rfl rfl ?_
  refine v_aload_n C eX12_init_0 rfl 0 rfl ?_
  refine v_objInit C rfl (by decide) oi_X12 eX12_init_1 (by decide) ?_
  refine v_aload_n C eX12_init_4 rfl 0 rfl ?_
  refine v_ldc (v := (65536 : Int32)) C eX12_init_5 vw_1097 ?_
  refine cb_B C hin F rfl eX12_init_7 (rfl : (65536 : Int32) = nI 65536) (by decide) ⟨Nat.le_of_ble_eq_true rfl, Nat.le_of_ble_eq_true rfl⟩ fX12_10_X12f (fun _ => ⟨rfl, rfl⟩) (by decide) eX12_init_9 (fun a1 F2 => ?_)
  refine v_eq (w' := vUp (lB (fun _ => none) _) o (eO 9 [.ref a1, .null, .null, .int 0, .int 0, .null, .null, .null, .null, .null, .null, .null, .null, .null, .null, .null, .null, .null, .int 0, .int 0, .int 0, .long 0, .null, .null, .null, .null, .null, .null, .null, .null, .null, .null, .null, .null, .null, .null, .null, .null, .null, .null, .null, .int 0, .int 0, .int 0, .int 0, .int 0, .int 0, .int 0, .int 0])) rfl rfl rfl ?_
  refine v_aload_n C eX12_init_12 rfl 0 rfl ?_
  refine v_bipush (v := (8 : Int32)) C eX12_init_13 (by decide) ?_
  refine v_ldc (v := (65536 : Int32)) C eX12_init_15 vw_1097 ?_
  refine cb_M C hin F2 rfl clX12_14 eX12_init_17 (rfl : (8 : Int32) = nI 8) (rfl : (65536 : Int32) = nI 65536) (by decide) (by decide) ⟨Nat.le_of_ble_eq_true rfl, Nat.le_of_ble_eq_true rfl⟩ fX12_16_X12f (fun _ => ⟨rfl, rfl⟩) (by decide) eX12_init_21 (fun q3 r4 F5 => ?_)
  refine v_eq (w' := vUp (lB (fun _ => none) _) o (eO 9 [.ref a1, .ref q3, .null, .int 0, .int 0, .null, .null, .null, .null, .null, .null, .null, .null, .null, .null, .null, .null, .null, .int 0, .int 0, .int 0, .long 0, .null, .null, .null, .null, .null, .null, .null, .null, .null, .null, .null, .null, .null, .null, .null, .null, .null, .null, .null, .int 0, .int 0, .int 0, .int 0, .int 0, .int 0, .int 0, .int 0])) rfl rfl rfl ?_
  refine v_aload_n C eX12_init_24 rfl 0 rfl ?_
  refine v_bipush (v := (8 : Int32)) C eX12_init_25 (by decide) ?_
  refine cb_I C hin F5 rfl eX12_init_27 (rfl : (8 : Int32) = nI 8) (by decide) ⟨Nat.le_of_ble_eq_true rfl, Nat.le_of_ble_eq_true rfl⟩ fX12_19_X12f (fun _ => ⟨rfl, rfl⟩) (by decide) eX12_init_29 (fun a6 F7 => ?_)
  refine v_eq (w' := vUp (lB (fun _ => none) _) o (eO 9 [.ref a1, .ref q3, .ref a6, .int 0, .int 0, .null, .null, .null, .null, .null, .null, .null, .null, .null, .null, .null, .null, .null, .int 0, .int 0, .int 0, .long 0, .null, .null, .null, .null, .null, .null, .null, .null, .null, .null, .null, .null, .null, .null, .null, .null, .null, .null, .null, .int 0, .int 0, .int 0, .int 0, .int 0, .int 0, .int 0, .int 0])) rfl rfl rfl ?_
  refine v_aload_n C eX12_init_32 rfl 0 rfl ?_
  refine v_bipush (v := (16 : Int32)) C eX12_init_33 (by decide) ?_
  refine cb_J C hin F7 rfl eX12_init_35 (rfl : (16 : Int32) = nI 16) (by decide) ⟨Nat.le_of_ble_eq_true rfl, Nat.le_of_ble_eq_true rfl⟩ fX12_23_X12f (fun _ => ⟨rfl, rfl⟩) (by decide) eX12_init_37 (fun a8 F9 => ?_)
  refine v_eq (w' := vUp (lB (fun _ => none) _) o (eO 9 [.ref a1, .ref q3, .ref a6, .int 0, .int 0, .ref a8, .null, .null, .null, .null, .null, .null, .null, .null, .null, .null, .null, .null, .int 0, .int 0, .int 0, .long 0, .null, .null, .null, .null, .null, .null, .null, .null, .null, .null, .null, .null, .null, .null, .null, .null, .null, .null, .null, .int 0, .int 0, .int 0, .int 0, .int 0, .int 0, .int 0, .int 0])) rfl rfl rfl ?_
  refine v_aload_n C eX12_init_40 rfl 0 rfl ?_
  refine v_bipush (v := (80 : Int32)) C eX12_init_41 (by decide) ?_
  refine cb_J C hin F9 rfl eX12_init_43 (rfl : (80 : Int32) = nI 80) (by decide) ⟨Nat.le_of_ble_eq_true rfl, Nat.le_of_ble_eq_true rfl⟩ fX12_27_X12f (fun _ => ⟨rfl, rfl⟩) (by decide) eX12_init_45 (fun a10 F11 => ?_)
  refine v_eq (w' := vUp (lB (fun _ => none) _) o (eO 9 [.ref a1, .ref q3, .ref a6, .int 0, .int 0, .ref a8, .ref a10, .null, .null, .null, .null, .null, .null, .null, .null, .null, .null, .null, .int 0, .int 0, .int 0, .long 0, .null, .null, .null, .null, .null, .null, .null, .null, .null, .null, .null, .null, .null, .null, .null, .null, .null, .null, .null, .int 0, .int 0, .int 0, .int 0, .int 0, .int 0, .int 0, .int 0])) rfl rfl rfl ?_
  refine v_aload_n C eX12_init_48 rfl 0 rfl ?_
  refine v_bipush (v := (8 : Int32)) C eX12_init_49 (by decide) ?_
  refine cb_J C hin F11 rfl eX12_init_51 (rfl : (8 : Int32) = nI 8) (by decide) ⟨Nat.le_of_ble_eq_true rfl, Nat.le_of_ble_eq_true rfl⟩ fX12_30_X12f (fun _ => ⟨rfl, rfl⟩) (by decide) eX12_init_53 (fun a12 F13 => ?_)
  refine v_eq (w' := vUp (lB (fun _ => none) _) o (eO 9 [.ref a1, .ref q3, .ref a6, .int 0, .int 0, .ref a8, .ref a10, .ref a12, .null, .null, .null, .null, .null, .null, .null, .null, .null, .null, .int 0, .int 0, .int 0, .long 0, .null, .null, .null, .null, .null, .null, .null, .null, .null, .null, .null, .null, .null, .null, .null, .null, .null, .null, .null, .int 0, .int 0, .int 0, .int 0, .int 0, .int 0, .int 0, .int 0])) rfl rfl rfl ?_
  refine v_aload_n C eX12_init_56 rfl 0 rfl ?_
  refine v_bipush (v := (8 : Int32)) C eX12_init_57 (by decide) ?_
  refine cb_J C hin F13 rfl eX12_init_59 (rfl : (8 : Int32) = nI 8) (by decide) ⟨Nat.le_of_ble_eq_true rfl, Nat.le_of_ble_eq_true rfl⟩ fX12_33_X12f (fun _ => ⟨rfl, rfl⟩) (by decide) eX12_init_61 (fun a14 F15 => ?_)
  refine v_eq (w' := vUp (lB (fun _ => none) _) o (eO 9 [.ref a1, .ref q3, .ref a6, .int 0, .int 0, .ref a8, .ref a10, .ref a12, .ref a14, .null, .null, .null, .null, .null, .null, .null, .null, .null, .int 0, .int 0, .int 0, .long 0, .null, .null, .null, .null, .null, .null, .null, .null, .null, .null, .null, .null, .null, .null, .null, .null, .null, .null, .null, .int 0, .int 0, .int 0, .int 0, .int 0, .int 0, .int 0, .int 0])) rfl rfl rfl ?_
  refine v_aload_n C eX12_init_64 rfl 0 rfl ?_
  refine v_bipush (v := (16 : Int32)) C eX12_init_65 (by decide) ?_
  refine cb_J C hin F15 rfl eX12_init_67 (rfl : (16 : Int32) = nI 16) (by decide) ⟨Nat.le_of_ble_eq_true rfl, Nat.le_of_ble_eq_true rfl⟩ fX12_36_X12f (fun _ => ⟨rfl, rfl⟩) (by decide) eX12_init_69 (fun a16 F17 => ?_)
  refine v_eq (w' := vUp (lB (fun _ => none) _) o (eO 9 [.ref a1, .ref q3, .ref a6, .int 0, .int 0, .ref a8, .ref a10, .ref a12, .ref a14, .ref a16, .null, .null, .null, .null, .null, .null, .null, .null, .int 0, .int 0, .int 0, .long 0, .null, .null, .null, .null, .null, .null, .null, .null, .null, .null, .null, .null, .null, .null, .null, .null, .null, .null, .null, .int 0, .int 0, .int 0, .int 0, .int 0, .int 0, .int 0, .int 0])) rfl rfl rfl ?_
  refine v_aload_n C eX12_init_72 rfl 0 rfl ?_
  refine v_bipush (v := (16 : Int32)) C eX12_init_73 (by decide) ?_
  refine cb_J C hin F17 rfl eX12_init_75 (rfl : (16 : Int32) = nI 16) (by decide) ⟨Nat.le_of_ble_eq_true rfl, Nat.le_of_ble_eq_true rfl⟩ fX12_39_X12f (fun _ => ⟨rfl, rfl⟩) (by decide) eX12_init_77 (fun a18 F19 => ?_)
  refine v_eq (w' := vUp (lB (fun _ => none) _) o (eO 9 [.ref a1, .ref q3, .ref a6, .int 0, .int 0, .ref a8, .ref a10, .ref a12, .ref a14, .ref a16, .ref a18, .null, .null, .null, .null, .null, .null, .null, .int 0, .int 0, .int 0, .long 0, .null, .null, .null, .null, .null, .null, .null, .null, .null, .null, .null, .null, .null, .null, .null, .null, .null, .null, .null, .int 0, .int 0, .int 0, .int 0, .int 0, .int 0, .int 0, .int 0])) rfl rfl rfl ?_
  refine v_aload_n C eX12_init_80 rfl 0 rfl ?_
  refine v_bipush (v := (25 : Int32)) C eX12_init_81 (by decide) ?_
  refine cb_I C hin F19 rfl eX12_init_83 (rfl : (25 : Int32) = nI 25) (by decide) ⟨Nat.le_of_ble_eq_true rfl, Nat.le_of_ble_eq_true rfl⟩ fX12_42_X12f (fun _ => ⟨rfl, rfl⟩) (by decide) eX12_init_85 (fun a20 F21 => ?_)
  refine v_eq (w' := vUp (lB (fun _ => none) _) o (eO 9 [.ref a1, .ref q3, .ref a6, .int 0, .int 0, .ref a8, .ref a10, .ref a12, .ref a14, .ref a16, .ref a18, .ref a20, .null, .null, .null, .null, .null, .null, .int 0, .int 0, .int 0, .long 0, .null, .null, .null, .null, .null, .null, .null, .null, .null, .null, .null, .null, .null, .null, .null, .null, .null, .null, .null, .int 0, .int 0, .int 0, .int 0, .int 0, .int 0, .int 0, .int 0])) rfl rfl rfl ?_
  refine v_aload_n C eX12_init_88 rfl 0 rfl ?_
  refine v_bipush (v := (24 : Int32)) C eX12_init_89 (by decide) ?_
  refine cb_J C hin F21 rfl eX12_init_91 (rfl : (24 : Int32) = nI 24) (by decide) ⟨Nat.le_of_ble_eq_true rfl, Nat.le_of_ble_eq_true rfl⟩ fX12_45_X12f (fun _ => ⟨rfl, rfl⟩) (by decide) eX12_init_93 (fun a22 F23 => ?_)
  refine v_eq (w' := vUp (lB (fun _ => none) _) o (eO 9 [.ref a1, .ref q3, .ref a6, .int 0, .int 0, .ref a8, .ref a10, .ref a12, .ref a14, .ref a16, .ref a18, .ref a20, .ref a22, .null, .null, .null, .null, .null, .int 0, .int 0, .int 0, .long 0, .null, .null, .null, .null, .null, .null, .null, .null, .null, .null, .null, .null, .null, .null, .null, .null, .null, .null, .null, .int 0, .int 0, .int 0, .int 0, .int 0, .int 0, .int 0, .int 0])) rfl rfl rfl ?_
  refine v_aload_n C eX12_init_96 rfl 0 rfl ?_
  refine v_bipush (v := (25 : Int32)) C eX12_init_97 (by decide) ?_
  refine cb_J C hin F23 rfl eX12_init_99 (rfl : (25 : Int32) = nI 25) (by decide) ⟨Nat.le_of_ble_eq_true rfl, Nat.le_of_ble_eq_true rfl⟩ fX12_48_X12f (fun _ => ⟨rfl, rfl⟩) (by decide) eX12_init_101 (fun a24 F25 => ?_)
  refine v_eq (w' := vUp (lB (fun _ => none) _) o (eO 9 [.ref a1, .ref q3, .ref a6, .int 0, .int 0, .ref a8, .ref a10, .ref a12, .ref a14, .ref a16, .ref a18, .ref a20, .ref a22, .ref a24, .null, .null, .null, .null, .int 0, .int 0, .int 0, .long 0, .null, .null, .null, .null, .null, .null, .null, .null, .null, .null, .null, .null, .null, .null, .null, .null, .null, .null, .null, .int 0, .int 0, .int 0, .int 0, .int 0, .int 0, .int 0, .int 0])) rfl rfl rfl ?_
  refine v_aload_n C eX12_init_104 rfl 0 rfl ?_
  refine v_bipush (v := (25 : Int32)) C eX12_init_105 (by decide) ?_
  refine cb_J C hin F25 rfl eX12_init_107 (rfl : (25 : Int32) = nI 25) (by decide) ⟨Nat.le_of_ble_eq_true rfl, Nat.le_of_ble_eq_true rfl⟩ fX12_51_X12f (fun _ => ⟨rfl, rfl⟩) (by decide) eX12_init_109 (fun a26 F27 => ?_)
  refine v_eq (w' := vUp (lB (fun _ => none) _) o (eO 9 [.ref a1, .ref q3, .ref a6, .int 0, .int 0, .ref a8, .ref a10, .ref a12, .ref a14, .ref a16, .ref a18, .ref a20, .ref a22, .ref a24, .ref a26, .null, .null, .null, .int 0, .int 0, .int 0, .long 0, .null, .null, .null, .null, .null, .null, .null, .null, .null, .null, .null, .null, .null, .null, .null, .null, .null, .null, .null, .int 0, .int 0, .int 0, .int 0, .int 0, .int 0, .int 0, .int 0])) rfl rfl rfl ?_
  refine v_aload_n C eX12_init_112 rfl 0 rfl ?_
  refine v_iconst (v := (5 : Int32)) C eX12_init_113 (by decide) ?_
  refine cb_J C hin F27 rfl eX12_init_114 (rfl : (5 : Int32) = nI 5) (by decide) ⟨Nat.le_of_ble_eq_true rfl, Nat.le_of_ble_eq_true rfl⟩ fX12_54_X12f (fun _ => ⟨rfl, rfl⟩) (by decide) eX12_init_116 (fun a28 F29 => ?_)
  refine v_eq (w' := vUp (lB (fun _ => none) _) o (eO 9 [.ref a1, .ref q3, .ref a6, .int 0, .int 0, .ref a8, .ref a10, .ref a12, .ref a14, .ref a16, .ref a18, .ref a20, .ref a22, .ref a24, .ref a26, .ref a28, .null, .null, .int 0, .int 0, .int 0, .long 0, .null, .null, .null, .null, .null, .null, .null, .null, .null, .null, .null, .null, .null, .null, .null, .null, .null, .null, .null, .int 0, .int 0, .int 0, .int 0, .int 0, .int 0, .int 0, .int 0])) rfl rfl rfl ?_
  refine v_aload_n C eX12_init_119 rfl 0 rfl ?_
  refine v_bipush (v := (80 : Int32)) C eX12_init_120 (by decide) ?_
  refine cb_J C hin F29 rfl eX12_init_122 (rfl : (80 : Int32) = nI 80) (by decide) ⟨Nat.le_of_ble_eq_true rfl, Nat.le_of_ble_eq_true rfl⟩ fX12_57_X12f (fun _ => ⟨rfl, rfl⟩) (by decide) eX12_init_124 (fun a30 F31 => ?_)
  refine v_eq (w' := vUp (lB (fun _ => none) _) o (eO 9 [.ref a1, .ref q3, .ref a6, .int 0, .int 0, .ref a8, .ref a10, .ref a12, .ref a14, .ref a16, .ref a18, .ref a20, .ref a22, .ref a24, .ref a26, .ref a28, .ref a30, .null, .int 0, .int 0, .int 0, .long 0, .null, .null, .null, .null, .null, .null, .null, .null, .null, .null, .null, .null, .null, .null, .null, .null, .null, .null, .null, .int 0, .int 0, .int 0, .int 0, .int 0, .int 0, .int 0, .int 0])) rfl rfl rfl ?_
  refine v_aload_n C eX12_init_127 rfl 0 rfl ?_
  refine v_sipush (v := (128 : Int32)) C eX12_init_128 (by decide) ?_
  refine cb_B C hin F31 rfl eX12_init_131 (rfl : (128 : Int32) = nI 128) (by decide) ⟨Nat.le_of_ble_eq_true rfl, Nat.le_of_ble_eq_true rfl⟩ fX12_60_X12f (fun _ => ⟨rfl, rfl⟩) (by decide) eX12_init_133 (fun a32 F33 => ?_)
  refine v_eq (w' := vUp (lB (fun _ => none) _) o (eO 9 [.ref a1, .ref q3, .ref a6, .int 0, .int 0, .ref a8, .ref a10, .ref a12, .ref a14, .ref a16, .ref a18, .ref a20, .ref a22, .ref a24, .ref a26, .ref a28, .ref a30, .ref a32, .int 0, .int 0, .int 0, .long 0, .null, .null, .null, .null, .null, .null, .null, .null, .null, .null, .null, .null, .null, .null, .null, .null, .null, .null, .null, .int 0, .int 0, .int 0, .int 0, .int 0, .int 0, .int 0, .int 0])) rfl rfl rfl ?_
  refine v_aload_n C eX12_init_136 rfl 0 rfl ?_
  refine v_sipush (v := (128 : Int32)) C eX12_init_137 (by decide) ?_
  refine cb_B C hin F33 rfl eX12_init_140 (rfl : (128 : Int32) = nI 128) (by decide) ⟨Nat.le_of_ble_eq_true rfl, Nat.le_of_ble_eq_true rfl⟩ fX12_63_X12f (fun _ => ⟨rfl, rfl⟩) (by decide) eX12_init_142 (fun a34 F35 => ?_)
  refine v_eq (w' := vUp (lB (fun _ => none) _) o (eO 9 [.ref a1, .ref q3, .ref a6, .int 0, .int 0, .ref a8, .ref a10, .ref a12, .ref a14, .ref a16, .ref a18, .ref a20, .ref a22, .ref a24, .ref a26, .ref a28, .ref a30, .ref a32, .int 0, .int 0, .int 0, .long 0, .ref a34, .null, .null, .null, .null, .null, .null, .null, .null, .null, .null, .null, .null, .null, .null, .null, .null, .null, .null, .int 0, .int 0, .int 0, .int 0, .int 0, .int 0, .int 0, .int 0])) rfl rfl rfl ?_
  refine v_aload_n C eX12_init_145 rfl 0 rfl ?_
  refine v_bipush (v := (64 : Int32)) C eX12_init_146 (by decide) ?_
  refine cb_B C hin F35 rfl eX12_init_148 (rfl : (64 : Int32) = nI 64) (by decide) ⟨Nat.le_of_ble_eq_true rfl, Nat.le_of_ble_eq_true rfl⟩ fX12_66_X12f (fun _ => ⟨rfl, rfl⟩) (by decide) eX12_init_150 (fun a36 F37 => ?_)
  refine v_eq (w' := vUp (lB (fun _ => none) _) o (eO 9 [.ref a1, .ref q3, .ref a6, .int 0, .int 0, .ref a8, .ref a10, .ref a12, .ref a14, .ref a16, .ref a18, .ref a20, .ref a22, .ref a24, .ref a26, .ref a28, .ref a30, .ref a32, .int 0, .int 0, .int 0, .long 0, .ref a34, .ref a36, .null, .null, .null, .null, .null, .null, .null, .null, .null, .null, .null, .null, .null, .null, .null, .null, .null, .int 0, .int 0, .int 0, .int 0, .int 0, .int 0, .int 0, .int 0])) rfl rfl rfl ?_
  refine v_aload_n C eX12_init_153 rfl 0 rfl ?_
  refine v_bipush (v := (64 : Int32)) C eX12_init_154 (by decide) ?_
  refine cb_B C hin F37 rfl eX12_init_156 (rfl : (64 : Int32) = nI 64) (by decide) ⟨Nat.le_of_ble_eq_true rfl, Nat.le_of_ble_eq_true rfl⟩ fX12_69_X12f (fun _ => ⟨rfl, rfl⟩) (by decide) eX12_init_158 (fun a38 F39 => ?_)
  refine v_eq (w' := vUp (lB (fun _ => none) _) o (eO 9 [.ref a1, .ref q3, .ref a6, .int 0, .int 0, .ref a8, .ref a10, .ref a12, .ref a14, .ref a16, .ref a18, .ref a20, .ref a22, .ref a24, .ref a26, .ref a28, .ref a30, .ref a32, .int 0, .int 0, .int 0, .long 0, .ref a34, .ref a36, .ref a38, .null, .null, .null, .null, .null, .null, .null, .null, .null, .null, .null, .null, .null, .null, .null, .null, .int 0, .int 0, .int 0, .int 0, .int 0, .int 0, .int 0, .int 0])) rfl rfl rfl ?_
  refine v_aload_n C eX12_init_161 rfl 0 rfl ?_
  refine v_bipush (v := (64 : Int32)) C eX12_init_162 (by decide) ?_
  refine cb_B C hin F39 rfl eX12_init_164 (rfl : (64 : Int32) = nI 64) (by decide) ⟨Nat.le_of_ble_eq_true rfl, Nat.le_of_ble_eq_true rfl⟩ fX12_72_X12f (fun _ => ⟨rfl, rfl⟩) (by decide) eX12_init_166 (fun a40 F41 => ?_)
  refine v_eq (w' := vUp (lB (fun _ => none) _) o (eO 9 [.ref a1, .ref q3, .ref a6, .int 0, .int 0, .ref a8, .ref a10, .ref a12, .ref a14, .ref a16, .ref a18, .ref a20, .ref a22, .ref a24, .ref a26, .ref a28, .ref a30, .ref a32, .int 0, .int 0, .int 0, .long 0, .ref a34, .ref a36, .ref a38, .ref a40, .null, .null, .null, .null, .null, .null, .null, .null, .null, .null, .null, .null, .null, .null, .null, .int 0, .int 0, .int 0, .int 0, .int 0, .int 0, .int 0, .int 0])) rfl rfl rfl ?_
  refine v_aload_n C eX12_init_169 rfl 0 rfl ?_
  refine v_sipush (v := (256 : Int32)) C eX12_init_170 (by decide) ?_
  refine cb_B C hin F41 rfl eX12_init_173 (rfl : (256 : Int32) = nI 256) (by decide) ⟨Nat.le_of_ble_eq_true rfl, Nat.le_of_ble_eq_true rfl⟩ fX12_75_X12f (fun _ => ⟨rfl, rfl⟩) (by decide) eX12_init_175 (fun a42 F43 => ?_)
  refine v_eq (w' := vUp (lB (fun _ => none) _) o (eO 9 [.ref a1, .ref q3, .ref a6, .int 0, .int 0, .ref a8, .ref a10, .ref a12, .ref a14, .ref a16, .ref a18, .ref a20, .ref a22, .ref a24, .ref a26, .ref a28, .ref a30, .ref a32, .int 0, .int 0, .int 0, .long 0, .ref a34, .ref a36, .ref a38, .ref a40, .ref a42, .null, .null, .null, .null, .null, .null, .null, .null, .null, .null, .null, .null, .null, .null, .int 0, .int 0, .int 0, .int 0, .int 0, .int 0, .int 0, .int 0])) rfl rfl rfl ?_
  refine v_aload_n C eX12_init_178 rfl 0 rfl ?_
  refine v_ldc (v := (65536 : Int32)) C eX12_init_179 vw_1097 ?_
  refine cb_B C hin F43 rfl eX12_init_181 (rfl : (65536 : Int32) = nI 65536) (by decide) ⟨Nat.le_of_ble_eq_true rfl, Nat.le_of_ble_eq_true rfl⟩ fX12_78_X12f (fun _ => ⟨rfl, rfl⟩) (by decide) eX12_init_183 (fun a44 F45 => ?_)
  refine v_eq (w' := vUp (lB (fun _ => none) _) o (eO 9 [.ref a1, .ref q3, .ref a6, .int 0, .int 0, .ref a8, .ref a10, .ref a12, .ref a14, .ref a16, .ref a18, .ref a20, .ref a22, .ref a24, .ref a26, .ref a28, .ref a30, .ref a32, .int 0, .int 0, .int 0, .long 0, .ref a34, .ref a36, .ref a38, .ref a40, .ref a42, .ref a44, .null, .null, .null, .null, .null, .null, .null, .null, .null, .null, .null, .null, .null, .int 0, .int 0, .int 0, .int 0, .int 0, .int 0, .int 0, .int 0])) rfl rfl rfl ?_
  refine v_aload_n C eX12_init_186 rfl 0 rfl ?_
  refine v_bipush (v := (32 : Int32)) C eX12_init_187 (by decide) ?_
  refine cb_B C hin F45 rfl eX12_init_189 (rfl : (32 : Int32) = nI 32) (by decide) ⟨Nat.le_of_ble_eq_true rfl, Nat.le_of_ble_eq_true rfl⟩ fX12_81_X12f (fun _ => ⟨rfl, rfl⟩) (by decide) eX12_init_191 (fun a46 F47 => ?_)
  refine v_eq (w' := vUp (lB (fun _ => none) _) o (eO 9 [.ref a1, .ref q3, .ref a6, .int 0, .int 0, .ref a8, .ref a10, .ref a12, .ref a14, .ref a16, .ref a18, .ref a20, .ref a22, .ref a24, .ref a26, .ref a28, .ref a30, .ref a32, .int 0, .int 0, .int 0, .long 0, .ref a34, .ref a36, .ref a38, .ref a40, .ref a42, .ref a44, .ref a46, .null, .null, .null, .null, .null, .null, .null, .null, .null, .null, .null, .null, .int 0, .int 0, .int 0, .int 0, .int 0, .int 0, .int 0, .int 0])) rfl rfl rfl ?_
  refine v_aload_n C eX12_init_194 rfl 0 rfl ?_
  refine v_bipush (v := (16 : Int32)) C eX12_init_195 (by decide) ?_
  refine v_bipush (v := (64 : Int32)) C eX12_init_197 (by decide) ?_
  refine cb_M C hin F47 rfl clX12_14 eX12_init_199 (rfl : (16 : Int32) = nI 16) (rfl : (64 : Int32) = nI 64) (by decide) (by decide) ⟨Nat.le_of_ble_eq_true rfl, Nat.le_of_ble_eq_true rfl⟩ fX12_84_X12f (fun _ => ⟨rfl, rfl⟩) (by decide) eX12_init_203 (fun q48 r49 F50 => ?_)
  refine v_eq (w' := vUp (lB (fun _ => none) _) o (eO 9 [.ref a1, .ref q3, .ref a6, .int 0, .int 0, .ref a8, .ref a10, .ref a12, .ref a14, .ref a16, .ref a18, .ref a20, .ref a22, .ref a24, .ref a26, .ref a28, .ref a30, .ref a32, .int 0, .int 0, .int 0, .long 0, .ref a34, .ref a36, .ref a38, .ref a40, .ref a42, .ref a44, .ref a46, .ref q48, .null, .null, .null, .null, .null, .null, .null, .null, .null, .null, .null, .int 0, .int 0, .int 0, .int 0, .int 0, .int 0, .int 0, .int 0])) rfl rfl rfl ?_
  refine v_aload_n C eX12_init_206 rfl 0 rfl ?_
  refine v_sipush (v := (2144 : Int32)) C eX12_init_207 (by decide) ?_
  refine cb_B C hin F50 rfl eX12_init_210 (rfl : (2144 : Int32) = nI 2144) (by decide) ⟨Nat.le_of_ble_eq_true rfl, Nat.le_of_ble_eq_true rfl⟩ fX12_87_X12f (fun _ => ⟨rfl, rfl⟩) (by decide) eX12_init_212 (fun a51 F52 => ?_)
  refine v_eq (w' := vUp (lB (fun _ => none) _) o (eO 9 [.ref a1, .ref q3, .ref a6, .int 0, .int 0, .ref a8, .ref a10, .ref a12, .ref a14, .ref a16, .ref a18, .ref a20, .ref a22, .ref a24, .ref a26, .ref a28, .ref a30, .ref a32, .int 0, .int 0, .int 0, .long 0, .ref a34, .ref a36, .ref a38, .ref a40, .ref a42, .ref a44, .ref a46, .ref q48, .ref a51, .null, .null, .null, .null, .null, .null, .null, .null, .null, .null, .int 0, .int 0, .int 0, .int 0, .int 0, .int 0, .int 0, .int 0])) rfl rfl rfl ?_
  refine v_aload_n C eX12_init_215 rfl 0 rfl ?_
  refine v_sipush (v := (2048 : Int32)) C eX12_init_216 (by decide) ?_
  refine cb_B C hin F52 rfl eX12_init_219 (rfl : (2048 : Int32) = nI 2048) (by decide) ⟨Nat.le_of_ble_eq_true rfl, Nat.le_of_ble_eq_true rfl⟩ fX12_90_X12f (fun _ => ⟨rfl, rfl⟩) (by decide) eX12_init_221 (fun a53 F54 => ?_)
  refine v_eq (w' := vUp (lB (fun _ => none) _) o (eO 9 [.ref a1, .ref q3, .ref a6, .int 0, .int 0, .ref a8, .ref a10, .ref a12, .ref a14, .ref a16, .ref a18, .ref a20, .ref a22, .ref a24, .ref a26, .ref a28, .ref a30, .ref a32, .int 0, .int 0, .int 0, .long 0, .ref a34, .ref a36, .ref a38, .ref a40, .ref a42, .ref a44, .ref a46, .ref q48, .ref a51, .ref a53, .null, .null, .null, .null, .null, .null, .null, .null, .null, .int 0, .int 0, .int 0, .int 0, .int 0, .int 0, .int 0, .int 0])) rfl rfl rfl ?_
  refine v_aload_n C eX12_init_224 rfl 0 rfl ?_
  refine v_bipush (v := (32 : Int32)) C eX12_init_225 (by decide) ?_
  refine cb_B C hin F54 rfl eX12_init_227 (rfl : (32 : Int32) = nI 32) (by decide) ⟨Nat.le_of_ble_eq_true rfl, Nat.le_of_ble_eq_true rfl⟩ fX12_93_X12f (fun _ => ⟨rfl, rfl⟩) (by decide) eX12_init_229 (fun a55 F56 => ?_)
  refine v_eq (w' := vUp (lB (fun _ => none) _) o (eO 9 [.ref a1, .ref q3, .ref a6, .int 0, .int 0, .ref a8, .ref a10, .ref a12, .ref a14, .ref a16, .ref a18, .ref a20, .ref a22, .ref a24, .ref a26, .ref a28, .ref a30, .ref a32, .int 0, .int 0, .int 0, .long 0, .ref a34, .ref a36, .ref a38, .ref a40, .ref a42, .ref a44, .ref a46, .ref q48, .ref a51, .ref a53, .ref a55, .null, .null, .null, .null, .null, .null, .null, .null, .int 0, .int 0, .int 0, .int 0, .int 0, .int 0, .int 0, .int 0])) rfl rfl rfl ?_
  refine v_aload_n C eX12_init_232 rfl 0 rfl ?_
  refine v_bipush (v := (64 : Int32)) C eX12_init_233 (by decide) ?_
  refine cb_B C hin F56 rfl eX12_init_235 (rfl : (64 : Int32) = nI 64) (by decide) ⟨Nat.le_of_ble_eq_true rfl, Nat.le_of_ble_eq_true rfl⟩ fX12_96_X12f (fun _ => ⟨rfl, rfl⟩) (by decide) eX12_init_237 (fun a57 F58 => ?_)
  refine v_eq (w' := vUp (lB (fun _ => none) _) o (eO 9 [.ref a1, .ref q3, .ref a6, .int 0, .int 0, .ref a8, .ref a10, .ref a12, .ref a14, .ref a16, .ref a18, .ref a20, .ref a22, .ref a24, .ref a26, .ref a28, .ref a30, .ref a32, .int 0, .int 0, .int 0, .long 0, .ref a34, .ref a36, .ref a38, .ref a40, .ref a42, .ref a44, .ref a46, .ref q48, .ref a51, .ref a53, .ref a55, .ref a57, .null, .null, .null, .null, .null, .null, .null, .int 0, .int 0, .int 0, .int 0, .int 0, .int 0, .int 0, .int 0])) rfl rfl rfl ?_
  refine v_aload_n C eX12_init_240 rfl 0 rfl ?_
  refine v_bipush (v := (64 : Int32)) C eX12_init_241 (by decide) ?_
  refine cb_B C hin F58 rfl eX12_init_243 (rfl : (64 : Int32) = nI 64) (by decide) ⟨Nat.le_of_ble_eq_true rfl, Nat.le_of_ble_eq_true rfl⟩ fX12_99_X12f (fun _ => ⟨rfl, rfl⟩) (by decide) eX12_init_245 (fun a59 F60 => ?_)
  refine v_eq (w' := vUp (lB (fun _ => none) _) o (eO 9 [.ref a1, .ref q3, .ref a6, .int 0, .int 0, .ref a8, .ref a10, .ref a12, .ref a14, .ref a16, .ref a18, .ref a20, .ref a22, .ref a24, .ref a26, .ref a28, .ref a30, .ref a32, .int 0, .int 0, .int 0, .long 0, .ref a34, .ref a36, .ref a38, .ref a40, .ref a42, .ref a44, .ref a46, .ref q48, .ref a51, .ref a53, .ref a55, .ref a57, .ref a59, .null, .null, .null, .null, .null, .null, .int 0, .int 0, .int 0, .int 0, .int 0, .int 0, .int 0, .int 0])) rfl rfl rfl ?_
  refine v_aload_n C eX12_init_248 rfl 0 rfl ?_
  refine v_bipush (v := (64 : Int32)) C eX12_init_249 (by decide) ?_
  refine cb_B C hin F60 rfl eX12_init_251 (rfl : (64 : Int32) = nI 64) (by decide) ⟨Nat.le_of_ble_eq_true rfl, Nat.le_of_ble_eq_true rfl⟩ fX12_102_X12f (fun _ => ⟨rfl, rfl⟩) (by decide) eX12_init_253 (fun a61 F62 => ?_)
  refine v_eq (w' := vUp (lB (fun _ => none) _) o (eO 9 [.ref a1, .ref q3, .ref a6, .int 0, .int 0, .ref a8, .ref a10, .ref a12, .ref a14, .ref a16, .ref a18, .ref a20, .ref a22, .ref a24, .ref a26, .ref a28, .ref a30, .ref a32, .int 0, .int 0, .int 0, .long 0, .ref a34, .ref a36, .ref a38, .ref a40, .ref a42, .ref a44, .ref a46, .ref q48, .ref a51, .ref a53, .ref a55, .ref a57, .ref a59, .ref a61, .null, .null, .null, .null, .null, .int 0, .int 0, .int 0, .int 0, .int 0, .int 0, .int 0, .int 0])) rfl rfl rfl ?_
  refine v_aload_n C eX12_init_256 rfl 0 rfl ?_
  refine v_bipush (v := (67 : Int32)) C eX12_init_257 (by decide) ?_
  refine cb_I C hin F62 rfl eX12_init_259 (rfl : (67 : Int32) = nI 67) (by decide) ⟨Nat.le_of_ble_eq_true rfl, Nat.le_of_ble_eq_true rfl⟩ fX12_105_X12f (fun _ => ⟨rfl, rfl⟩) (by decide) eX12_init_261 (fun a63 F64 => ?_)
  refine v_eq (w' := vUp (lB (fun _ => none) _) o (eO 9 [.ref a1, .ref q3, .ref a6, .int 0, .int 0, .ref a8, .ref a10, .ref a12, .ref a14, .ref a16, .ref a18, .ref a20, .ref a22, .ref a24, .ref a26, .ref a28, .ref a30, .ref a32, .int 0, .int 0, .int 0, .long 0, .ref a34, .ref a36, .ref a38, .ref a40, .ref a42, .ref a44, .ref a46, .ref q48, .ref a51, .ref a53, .ref a55, .ref a57, .ref a59, .ref a61, .ref a63, .null, .null, .null, .null, .int 0, .int 0, .int 0, .int 0, .int 0, .int 0, .int 0, .int 0])) rfl rfl rfl ?_
  refine v_aload_n C eX12_init_264 rfl 0 rfl ?_
  refine v_bipush (v := (32 : Int32)) C eX12_init_265 (by decide) ?_
  refine cb_B C hin F64 rfl eX12_init_267 (rfl : (32 : Int32) = nI 32) (by decide) ⟨Nat.le_of_ble_eq_true rfl, Nat.le_of_ble_eq_true rfl⟩ fX12_108_X12f (fun _ => ⟨rfl, rfl⟩) (by decide) eX12_init_269 (fun a65 F66 => ?_)
  refine v_eq (w' := vUp (lB (fun _ => none) _) o (eO 9 [.ref a1, .ref q3, .ref a6, .int 0, .int 0, .ref a8, .ref a10, .ref a12, .ref a14, .ref a16, .ref a18, .ref a20, .ref a22, .ref a24, .ref a26, .ref a28, .ref a30, .ref a32, .int 0, .int 0, .int 0, .long 0, .ref a34, .ref a36, .ref a38, .ref a40, .ref a42, .ref a44, .ref a46, .ref q48, .ref a51, .ref a53, .ref a55, .ref a57, .ref a59, .ref a61, .ref a63, .ref a65, .null, .null, .null, .int 0, .int 0, .int 0, .int 0, .int 0, .int 0, .int 0, .int 0])) rfl rfl rfl ?_
  refine v_aload_n C eX12_init_272 rfl 0 rfl ?_
  refine v_bipush (v := (32 : Int32)) C eX12_init_273 (by decide) ?_
  refine cb_B C hin F66 rfl eX12_init_275 (rfl : (32 : Int32) = nI 32) (by decide) ⟨Nat.le_of_ble_eq_true rfl, Nat.le_of_ble_eq_true rfl⟩ fX12_111_X12f (fun _ => ⟨rfl, rfl⟩) (by decide) eX12_init_277 (fun a67 F68 => ?_)
  refine v_eq (w' := vUp (lB (fun _ => none) _) o (eO 9 [.ref a1, .ref q3, .ref a6, .int 0, .int 0, .ref a8, .ref a10, .ref a12, .ref a14, .ref a16, .ref a18, .ref a20, .ref a22, .ref a24, .ref a26, .ref a28, .ref a30, .ref a32, .int 0, .int 0, .int 0, .long 0, .ref a34, .ref a36, .ref a38, .ref a40, .ref a42, .ref a44, .ref a46, .ref q48, .ref a51, .ref a53, .ref a55, .ref a57, .ref a59, .ref a61, .ref a63, .ref a65, .ref a67, .null, .null, .int 0, .int 0, .int 0, .int 0, .int 0, .int 0, .int 0, .int 0])) rfl rfl rfl ?_
  refine v_aload_n C eX12_init_280 rfl 0 rfl ?_
  refine v_bipush (v := (32 : Int32)) C eX12_init_281 (by decide) ?_
  refine cb_B C hin F68 rfl eX12_init_283 (rfl : (32 : Int32) = nI 32) (by decide) ⟨Nat.le_of_ble_eq_true rfl, Nat.le_of_ble_eq_true rfl⟩ fX12_114_X12f (fun _ => ⟨rfl, rfl⟩) (by decide) eX12_init_285 (fun a69 F70 => ?_)
  refine v_eq (w' := vUp (lB (fun _ => none) _) o (eO 9 [.ref a1, .ref q3, .ref a6, .int 0, .int 0, .ref a8, .ref a10, .ref a12, .ref a14, .ref a16, .ref a18, .ref a20, .ref a22, .ref a24, .ref a26, .ref a28, .ref a30, .ref a32, .int 0, .int 0, .int 0, .long 0, .ref a34, .ref a36, .ref a38, .ref a40, .ref a42, .ref a44, .ref a46, .ref q48, .ref a51, .ref a53, .ref a55, .ref a57, .ref a59, .ref a61, .ref a63, .ref a65, .ref a67, .ref a69, .null, .int 0, .int 0, .int 0, .int 0, .int 0, .int 0, .int 0, .int 0])) rfl rfl rfl ?_
  refine v_aload_n C eX12_init_288 rfl 0 rfl ?_
  refine v_bipush (v := (32 : Int32)) C eX12_init_289 (by decide) ?_
  refine cb_B C hin F70 rfl eX12_init_291 (rfl : (32 : Int32) = nI 32) (by decide) ⟨Nat.le_of_ble_eq_true rfl, Nat.le_of_ble_eq_true rfl⟩ fX12_117_X12f (fun _ => ⟨rfl, rfl⟩) (by decide) eX12_init_293 (fun a71 F72 => ?_)
  refine v_eq (w' := vUp (lB (fun _ => none) _) o (eO 9 [.ref a1, .ref q3, .ref a6, .int 0, .int 0, .ref a8, .ref a10, .ref a12, .ref a14, .ref a16, .ref a18, .ref a20, .ref a22, .ref a24, .ref a26, .ref a28, .ref a30, .ref a32, .int 0, .int 0, .int 0, .long 0, .ref a34, .ref a36, .ref a38, .ref a40, .ref a42, .ref a44, .ref a46, .ref q48, .ref a51, .ref a53, .ref a55, .ref a57, .ref a59, .ref a61, .ref a63, .ref a65, .ref a67, .ref a69, .ref a71, .int 0, .int 0, .int 0, .int 0, .int 0, .int 0, .int 0, .int 0])) rfl rfl rfl ?_
  refine v_aload_n C eX12_init_296 rfl 0 rfl ?_
  refine v_wide (k := 59) (n := 662091) (Nat.le_of_ble_eq_true rfl) (Nat.le_of_ble_eq_true rfl) ?_
  exact k_X12e (A := [a1, a6, a8, a10, a12, a14, a16, a18, a20, a22, a24, a26, a28, a30, a32, a34, a36, a38, a40, a42, a44, a46, a51, a53, a55, a57, a59, a61, a63, a65, a67, a69, a71]) (q1 := q3) (r1 := r4) (q29 := q48) (r29 := r49) ⟨F72.2.1, F72.1⟩ hlc C
end RI2
