theorem eX11_init_0 : vD cX11_init 0 (.aload_n 0) 1 1 := ⟨by decide +kernel, rfl⟩
theorem eX11_init_1 : vD cX11_init 1 (.invokespecial 1) 3 4 := ⟨by decide +kernel, rfl⟩
theorem eX11_init_4 : vD cX11_init 4 (.aload_n 0) 1 5 := ⟨by decide +kernel, rfl⟩
theorem eX11_init_5 : vD cX11_init 5 (.bipush 8) 2 7 := ⟨by decide +kernel, rfl⟩
theorem eX11_init_7 : vD cX11_init 7 (.ldc 9) 2 9 := ⟨by decide +kernel, rfl⟩
theorem eX11_init_9 : vD cX11_init 9 (.multianewarray 10 2) 4 13 := ⟨by decide +kernel, rfl⟩
theorem eX11_init_13 : vD cX11_init 13 (.putfield 12) 3 16 := ⟨by decide +kernel, rfl⟩
theorem eX11_init_16 : vD cX11_init 16 (.aload_n 0) 1 17 := ⟨by decide +kernel, rfl⟩
theorem eX11_init_17 : vD cX11_init 17 (.bipush 8) 2 19 := ⟨by decide +kernel, rfl⟩
theorem eX11_init_19 : vD cX11_init 19 (.newarray .int) 2 21 := ⟨by decide +kernel, rfl⟩
theorem eX11_init_21 : vD cX11_init 21 (.putfield 15) 3 24 := ⟨by decide +kernel, rfl⟩
theorem eX11_init_24 : vD cX11_init 24 (.aload_n 0) 1 25 := ⟨by decide +kernel, rfl⟩
theorem eX11_init_25 : vD cX11_init 25 (.ldc 9) 2 27 := ⟨by decide +kernel, rfl⟩
theorem eX11_init_27 : vD cX11_init 27 (.newarray .byte) 2 29 := ⟨by decide +kernel, rfl⟩
theorem eX11_init_29 : vD cX11_init 29 (.putfield 19) 3 32 := ⟨by decide +kernel, rfl⟩
theorem eX11_init_32 : vD cX11_init 32 (.aload_n 0) 1 33 := ⟨by decide +kernel, rfl⟩
theorem eX11_init_33 : vD cX11_init 33 (.iconst 0) 1 34 := ⟨by decide +kernel, rfl⟩
theorem eX11_init_34 : vD cX11_init 34 (.putfield 23) 3 37 := ⟨by decide +kernel, rfl⟩
theorem eX11_init_37 : vD cX11_init 37 (.aload_n 0) 1 38 := ⟨by decide +kernel, rfl⟩
theorem eX11_init_38 : vD cX11_init 38 (.ldc 27) 2 40 := ⟨by decide +kernel, rfl⟩
theorem eX11_init_40 : vD cX11_init 40 (.newarray .byte) 2 42 := ⟨by decide +kernel, rfl⟩
theorem eX11_init_42 : vD cX11_init 42 (.putfield 28) 3 45 := ⟨by decide +kernel, rfl⟩
theorem eX11_init_45 : vD cX11_init 45 (.aload_n 0) 1 46 := ⟨by decide +kernel, rfl⟩
theorem eX11_init_46 : vD cX11_init 46 (.iconst 0) 1 47 := ⟨by decide +kernel, rfl⟩
theorem eX11_init_47 : vD cX11_init 47 (.putfield 31) 3 50 := ⟨by decide +kernel, rfl⟩
theorem eX11_init_50 : vD cX11_init 50 (.aload_n 0) 1 51 := ⟨by decide +kernel, rfl⟩
theorem eX11_init_51 : vD cX11_init 51 (.new 34) 3 54 := ⟨by decide +kernel, rfl⟩
theorem eX11_init_54 : vD cX11_init 54 .dup 1 55 := ⟨by decide +kernel, rfl⟩
theorem eX11_init_55 : vD cX11_init 55 (.new 36) 3 58 := ⟨by decide +kernel, rfl⟩
theorem eX11_init_58 : vD cX11_init 58 .dup 1 59 := ⟨by decide +kernel, rfl⟩
theorem eX11_init_59 : vD cX11_init 59 (.invokespecial 38) 3 62 := ⟨by decide +kernel, rfl⟩
theorem eX11_init_62 : vD cX11_init 62 (.invokespecial 39) 3 65 := ⟨by decide +kernel, rfl⟩
theorem eX11_init_65 : vD cX11_init 65 (.putfield 42) 3 68 := ⟨by decide +kernel, rfl⟩
theorem eX11_init_68 : vD cX11_init 68 (.aload_n 0) 1 69 := ⟨by decide +kernel, rfl⟩
theorem eX11_init_69 : vD cX11_init 69 (.new 34) 3 72 := ⟨by decide +kernel, rfl⟩
theorem eX11_init_72 : vD cX11_init 72 .dup 1 73 := ⟨by decide +kernel, rfl⟩
theorem eX11_init_73 : vD cX11_init 73 (.new 46) 3 76 := ⟨by decide +kernel, rfl⟩
theorem eX11_init_76 : vD cX11_init 76 .dup 1 77 := ⟨by decide +kernel, rfl⟩
theorem eX11_init_77 : vD cX11_init 77 (.invokespecial 48) 3 80 := ⟨by decide +kernel, rfl⟩
theorem eX11_init_80 : vD cX11_init 80 (.invokespecial 39) 3 83 := ⟨by decide +kernel, rfl⟩
theorem eX11_init_83 : vD cX11_init 83 (.putfield 49) 3 86 := ⟨by decide +kernel, rfl⟩
theorem eX11_init_86 : vD cX11_init 86 .return_ 1 87 := ⟨by decide +kernel, rfl⟩

/-! HashTreeSigner's constructor -/
def lK (L : List (Nat × va_E)) (k : Nat) : Nat × va_E := L.getD k (0, eO 0 [])
/-- a new HashTreeSigner at o: its cells, some of them by their places -/
def cI (G : vG) (o : Nat) (L : List (Nat × va_E)) : Prop := L.length = 27 ∧ ∃ r : Nat → Nat, lK L 0 = (o, eO 8 [.ref (lK L 26).1, .ref (lK L 17).1, .ref (lK L 16).1, .int 0, .ref (lK L 15).1, .int 0, .ref (lK L 8).1, .ref (lK L 1).1]) ∧ (lK L 26).2 = eR G 8 (fun i => if i < 8 then some (r i) else none) ∧ (∀ i, i < 8 → lK L (25 - i) = (r i, eB G 65536 (fun _ => 0))) ∧ (lK L 17).2 = eI G 8 (fun _ => 0) ∧ (lK L 16).2 = eB G 65536 (fun _ => 0)
theorem cI_fin {G : vG} {o : Nat} {L : List (Nat × va_E)} {fs : List Value} (F : oF (fun _ => none) o 8 L fs) (h : cI G o ((o, eO 8 fs) :: L)) : ∃ L', lF (fun _ => none) L' ∧ vUp (lB (fun _ => none) L) o (eO 8 fs) = lB (fun _ => none) L' ∧ cI G o L' := ⟨(o, eO 8 fs) :: L, ⟨F.2.1, F.1⟩, rfl, h⟩
section CI
variable {G : vG} {B : Nat} {l : Launch}
set_option maxRecDepth 100000 in
set_option maxHeartbeats 8000000 in
theorem k_X11 {o : Nat} : vOk G B l yX11_init cX11_init 1 none 4 56 665688 [.ref o] (vUp (fun _ => none) o (eO 8 zX11)) (fun r w' => r = none ∧ ∃ L, lF (fun _ => none) L ∧ w' = lB (fun _ => none) L ∧ cI G o L) := by
  refine vOk.ofI (by decide +kernel) (Nat.le_of_ble_eq_true rfl) ?_
  intro p e s m args below meth c C hin
  have F : oF (fun _ => none) o 8 [] zX11 := ⟨trivial, rfl, rfl⟩
  refine v_eq (w' := vUp (lB (fun _ => none) []) o (eO 8 zX11)) (lv' := [(0, .ref o)]) rfl rfl rfl ?_
  refine v_aload_n C eX11_init_0 rfl 0 rfl ?_
  refine v_objInit C rfl (by decide) oi_X11 eX11_init_1 (by decide) ?_
  refine v_aload_n C eX11_init_4 rfl 0 rfl ?_
  refine v_bipush (v := (8 : Int32)) C eX11_init_5 (by decide) ?_
  refine v_ldc (v := (65536 : Int32)) C eX11_init_7 vw_43 ?_
  refine cb_M C hin F rfl clX11_10 eX11_init_9 (rfl : (8 : Int32) = nI 8) (rfl : (65536 : Int32) = nI 65536) (by decide) (by decide) ⟨Nat.le_of_ble_eq_true rfl, Nat.le_of_ble_eq_true rfl⟩ fX11_12_X11f (fun _ => ⟨rfl, rfl⟩) (by decide) eX11_init_13 (fun q1 r2 F3 => ?_)
  refine v_aload_n C eX11_init_16 rfl 0 rfl ?_
  refine v_bipush (v := (8 : Int32)) C eX11_init_17 (by decide) ?_
  refine cb_I C hin F3 rfl eX11_init_19 (rfl : (8 : Int32) = nI 8) (by decide) ⟨Nat.le_of_ble_eq_true rfl, Nat.le_of_ble_eq_true rfl⟩ fX11_15_X11f (fun _ => ⟨rfl, rfl⟩) (by decide) eX11_init_21 (fun a4 F5 => ?_)
  refine v_aload_n C eX11_init_24 rfl 0 rfl ?_
  refine v_ldc (v := (65536 : Int32)) C eX11_init_25 vw_43 ?_
  refine cb_B C hin F5 rfl eX11_init_27 (rfl : (65536 : Int32) = nI 65536) (by decide) ⟨Nat.le_of_ble_eq_true rfl, Nat.le_of_ble_eq_true rfl⟩ fX11_19_X11f (fun _ => ⟨rfl, rfl⟩) (by decide) eX11_init_29 (fun a6 F7 => ?_)
  refine v_aload_n C eX11_init_32 rfl 0 rfl ?_
  refine v_iconst (v := (0 : Int32)) C eX11_init_33 (by decide) ?_
  refine cb_set C F7 fX11_23_X11p ⟨rfl, rfl⟩ (by decide) eX11_init_34 (fun F8 => ?_)
  refine v_aload_n C eX11_init_37 rfl 0 rfl ?_
  refine v_ldc (v := (65793 : Int32)) C eX11_init_38 vw_46 ?_
  refine cb_B C hin F8 rfl eX11_init_40 (rfl : (65793 : Int32) = nI 65793) (by decide) ⟨Nat.le_of_ble_eq_true rfl, Nat.le_of_ble_eq_true rfl⟩ fX11_28_X11f (fun _ => ⟨rfl, rfl⟩) (by decide) eX11_init_42 (fun a9 F10 => ?_)
  refine v_aload_n C eX11_init_45 rfl 0 rfl ?_
  refine v_iconst (v := (0 : Int32)) C eX11_init_46 (by decide) ?_
  refine cb_set C F10 fX11_31_X11p ⟨rfl, rfl⟩ (by decide) eX11_init_47 (fun F11 => ?_)
  refine v_aload_n C eX11_init_50 rfl 0 rfl ?_
  refine v_new C rfl nwX11_34 ⟨Nat.le_of_ble_eq_true rfl, Nat.le_of_ble_eq_true rfl⟩ eX11_init_51 (fun q12 hq13 _ => ?_)
  refine v_dup C eX11_init_54 rfl ?_
  refine v_new C rfl nwX11_36 ⟨Nat.le_of_ble_eq_true rfl, Nat.le_of_ble_eq_true rfl⟩ eX11_init_55 (fun q14 hq15 _ => ?_)
  refine v_dup C eX11_init_58 rfl ?_
  refine v_callI (rt := none) (As := []) (rest := [.ref q14, .ref q12, .ref q12, .ref o]) C mX11_38 (k_X7 hq15) rfl (by decide) (by decide) ⟨Nat.le_of_ble_eq_true rfl, Nat.le_of_ble_eq_true rfl⟩ rfl rfl (Nat.le_of_ble_eq_true rfl) eX11_init_59 (fun r w1 hp => ?_)
  obtain ⟨rfl, ef0, rfl⟩ := hp
  have g0 := vUp_none hq15
  refine v_eq (vUp_com (Ne.symm g0.1)) rfl rfl ?_
  refine v_callI (rt := none) (As := [.ref q14]) (rest := [.ref q12, .ref o]) C mX11_39 (k_X10 ((vUp_ne (Ne.symm g0.1)).trans hq13)) rfl (by decide) (by decide) ⟨Nat.le_of_ble_eq_true rfl, Nat.le_of_ble_eq_true rfl⟩ rfl rfl (Nat.le_of_ble_eq_true rfl) eX11_init_62 (fun r w1 hp => ?_)
  obtain ⟨rfl, x10, x20, x30, x40, x50, et0, ga0, gb0, rfl⟩ := hp
  obtain ⟨G0, ea0, eb0⟩ := pic_T F11 g0.2 ga0 gb0
  refine v_eq (congrArg (fun z => vUp z q12 et0) ea0) rfl rfl ?_
  refine cb_put C hin G0 eb0 fX11_42_X11f ⟨rfl, rfl⟩ (by decide) eX11_init_65 (fun F16 => ?_)
  refine v_aload_n C eX11_init_68 rfl 0 rfl ?_
  refine v_new C rfl nwX11_34 ⟨Nat.le_of_ble_eq_true rfl, Nat.le_of_ble_eq_true rfl⟩ eX11_init_69 (fun q17 hq18 _ => ?_)
  refine v_dup C eX11_init_72 rfl ?_
  refine v_new C rfl nwX11_46 ⟨Nat.le_of_ble_eq_true rfl, Nat.le_of_ble_eq_true rfl⟩ eX11_init_73 (fun q19 hq20 _ => ?_)
  refine v_dup C eX11_init_76 rfl ?_
  refine v_callI (rt := none) (As := []) (rest := [.ref q19, .ref q17, .ref q17, .ref o]) C mX11_48 (k_X5 hq20) rfl (by decide) (by decide) ⟨Nat.le_of_ble_eq_true rfl, Nat.le_of_ble_eq_true rfl⟩ rfl rfl (Nat.le_of_ble_eq_true rfl) eX11_init_77 (fun r w1 hp => ?_)
  obtain ⟨rfl, ef1, rfl⟩ := hp
  have g1 := vUp_none hq20
  refine v_eq (vUp_com (Ne.symm g1.1)) rfl rfl ?_
  refine v_callI (rt := none) (As := [.ref q19]) (rest := [.ref q17, .ref o]) C mX11_39 (k_X10 ((vUp_ne (Ne.symm g1.1)).trans hq18)) rfl (by decide) (by decide) ⟨Nat.le_of_ble_eq_true rfl, Nat.le_of_ble_eq_true rfl⟩ rfl rfl (Nat.le_of_ble_eq_true rfl) eX11_init_80 (fun r w1 hp => ?_)
  obtain ⟨rfl, x11, x21, x31, x41, x51, et1, ga1, gb1, rfl⟩ := hp
  obtain ⟨G1, ea1, eb1⟩ := pic_T F16 g1.2 ga1 gb1
  refine v_eq (congrArg (fun z => vUp z q17 et1) ea1) rfl rfl ?_
  refine cb_put C hin G1 eb1 fX11_49_X11f ⟨rfl, rfl⟩ (by decide) eX11_init_83 (fun F21 => ?_)
  refine v_wide (k := 56) (n := 665688) (Nat.le_of_ble_eq_true rfl) (Nat.le_of_ble_eq_true rfl) ?_
  refine v_vret C rfl eX11_init_86 ⟨rfl, cI_fin F21 ⟨rfl, r2, rfl, rfl, fun i hi => ?_, rfl, rfl⟩⟩
  rcases i with _ | _ | _ | _ | _ | _ | _ | _ | i <;> first | rfl | omega
end CI
