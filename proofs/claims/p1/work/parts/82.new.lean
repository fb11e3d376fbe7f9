theorem slX10_22 : Cond.fieldLink RX10 22 "HashTreeSigner$Sizes" "SMALL_16" "LHashTreeSigner$Sizes;" ∈ vGW := vGW_at 134 (by decide +kernel) (by decide +kernel)
theorem slX11_206 : Cond.fieldLink RX11 206 "HashTreeSigner" "SIZES" "[LHashTreeSigner$Sizes;" ∈ vGW := vGW_at 773 (by decide +kernel) (by decide +kernel)
theorem slX3_34 : Cond.fieldLink RX3 34 "HashTreeSigner$Sha2" "SQUARE_ROOTS" "[J" ∈ vGW := vGW_at 825 (by decide +kernel) (by decide +kernel)
theorem slX4_27 : Cond.fieldLink RX4 27 "HashTreeSigner$Sha256" "CUBE_ROOTS" "[J" ∈ vGW := vGW_at 842 (by decide +kernel) (by decide +kernel)
theorem slX6_28 : Cond.fieldLink RX6 28 "HashTreeSigner$Sha512" "CUBE_ROOTS" "[J" ∈ vGW := vGW_at 851 (by decide +kernel) (by decide +kernel)
theorem slX9_42 : Cond.fieldLink RX9 42 "HashTreeSigner$Sponge" "ROUNDS" "[J" ∈ vGW := vGW_at 929 (by decide +kernel) (by decide +kernel)
theorem slX11_102 : Cond.fieldLink RX11 102 "HashTreeSigner$Sizes" "n" "I" ∈ vGW := vGW_at 1517 (by decide +kernel) (by decide +kernel)
theorem slX10_63 : Cond.fieldLink RX10 63 "HashTreeSigner$Sizes" "n" "I" ∈ vGW := vGW_at 1518 (by decide +kernel) (by decide +kernel)
theorem slX1_40 : Cond.fieldLink RX1 40 "HashTreeSigner$Sizes" "n" "I" ∈ vGW := vGW_at 1519 (by decide +kernel) (by decide +kernel)
theorem slX1_43 : Cond.fieldLink RX1 43 "HashTreeSigner$Sizes" "chains" "I" ∈ vGW := vGW_at 1520 (by decide +kernel) (by decide +kernel)
theorem slX11_120 : Cond.fieldLink RX11 120 "HashTreeSigner$Sizes" "d" "I" ∈ vGW := vGW_at 1521 (by decide +kernel) (by decide +kernel)
theorem slX11_127 : Cond.fieldLink RX11 127 "HashTreeSigner$Sizes" "p" "I" ∈ vGW := vGW_at 1522 (by decide +kernel) (by decide +kernel)
theorem slX10_77 : Cond.fieldLink RX10 77 "HashTreeSigner$Sizes" "u" "I" ∈ vGW := vGW_at 1523 (by decide +kernel) (by decide +kernel)
theorem slX10_80 : Cond.fieldLink RX10 80 "HashTreeSigner$Sizes" "v" "I" ∈ vGW := vGW_at 1524 (by decide +kernel) (by decide +kernel)
theorem slX10_83 : Cond.fieldLink RX10 83 "HashTreeSigner$Sizes" "y" "I" ∈ vGW := vGW_at 1525 (by decide +kernel) (by decide +kernel)
theorem slX10_91 : Cond.fieldLink RX10 91 "HashTreeSigner$Sizes" "treeBits" "I" ∈ vGW := vGW_at 1526 (by decide +kernel) (by decide +kernel)
theorem slX10_98 : Cond.fieldLink RX10 98 "HashTreeSigner$Sizes" "p" "I" ∈ vGW := vGW_at 1527 (by decide +kernel) (by decide +kernel)
theorem slX10_112 : Cond.fieldLink RX10 112 "HashTreeSigner$Sizes" "k" "I" ∈ vGW := vGW_at 1528 (by decide +kernel) (by decide +kernel)
theorem slX10_130 : Cond.fieldLink RX10 130 "HashTreeSigner$Sizes" "a" "I" ∈ vGW := vGW_at 1529 (by decide +kernel) (by decide +kernel)
theorem slX10_167 : Cond.fieldLink RX10 167 "HashTreeSigner$Sizes" "chains" "I" ∈ vGW := vGW_at 1530 (by decide +kernel) (by decide +kernel)
theorem slX11_176 : Cond.fieldLink RX11 176 "HashTreeSigner$Sizes" "signature" "I" ∈ vGW := vGW_at 1531 (by decide +kernel) (by decide +kernel)
/-! new objects -/
def zX0 : List Value := [.null, .int 0, .int 0, .int 0, .int 0]
def zX1 : List Value := [.null, .null, .null, .null, .null, .int 0, .int 0]
def zX4 : List Value := [.int 0, .null, .null, .int 0, .null, .int 0, .long 0, .null]
def zX5 : List Value := [.null, .null, .int 0, .null, .null, .null, .null, .null]
def zX6 : List Value := [.int 0, .null, .null, .int 0, .null, .int 0, .long 0, .null]
def zX7 : List Value := [.null, .null, .int 0, .null]
def zX9 : List Value := [.null, .null, .int 0]
def zX10 : List Value := [.null, .null, .null, .null, .null, .null, .null, .int 0, .long 0, .int 0, .int 0, .int 0]
def zX11 : List Value := [.null, .null, .null, .int 0, .null, .int 0, .null, .null]
def zX12 : List Value := [.null, .null, .null, .int 0, .int 0, .null, .null, .null, .null, .null, .null, .null, .null, .null, .null, .null, .null, .null, .int 0, .int 0, .int 0, .long 0, .null, .null, .null, .null, .null, .null, .null, .null, .null, .null, .null, .null, .null, .null, .null, .null, .null, .null, .null, .int 0, .int 0, .int 0, .int 0, .int 0, .int 0, .int 0, .int 0]
def vNew (own : String) (index ci : Nat) (fs : List Value) : Prop := ∃ (Cn : String) (T : u_T) (N : Nat) (ty : Nat → FieldType), vCl[ci]? = some (Cn, T, N) ∧ (∀ w ∈ u_ws Cn T N, w ∈ vGW) ∧ (∀ k, k < N → parseFieldDescriptor (T k).2.2.1 = some (ty k)) ∧ Cond.classLink own index Cn ∈ vGW ∧ Cond.instantiable Cn N ∈ vGW ∧ Cond.initialized Cn ∈ vGW ∧ (List.range N).map (fun j => defaultValue (ty j)) = fs
theorem ni_X0 : Cond.instantiable RX0 5 ∈ vGW := vGW_at 55 (by decide +kernel) (by decide +kernel)
theorem nz_X0 : Cond.initialized RX0 ∈ vGW := vGW_at 5 (by decide +kernel) (by decide +kernel)
theorem ni_X1 : Cond.instantiable RX1 7 ∈ vGW := vGW_at 137 (by decide +kernel) (by decide +kernel)
theorem nz_X1 : Cond.initialized RX1 ∈ vGW := vGW_at 9 (by decide +kernel) (by decide +kernel)
theorem ni_X4 : Cond.instantiable RX4 8 ∈ vGW := vGW_at 218 (by decide +kernel) (by decide +kernel)
theorem nz_X4 : Cond.initialized RX4 ∈ vGW := vGW_at 13 (by decide +kernel) (by decide +kernel)
theorem ni_X5 : Cond.instantiable RX5 8 ∈ vGW := vGW_at 210 (by decide +kernel) (by decide +kernel)
theorem nz_X5 : Cond.initialized RX5 ∈ vGW := vGW_at 11 (by decide +kernel) (by decide +kernel)
theorem ni_X6 : Cond.instantiable RX6 8 ∈ vGW := vGW_at 261 (by decide +kernel) (by decide +kernel)
theorem nz_X6 : Cond.initialized RX6 ∈ vGW := vGW_at 14 (by decide +kernel) (by decide +kernel)
theorem ni_X7 : Cond.instantiable RX7 4 ∈ vGW := vGW_at 50 (by decide +kernel) (by decide +kernel)
theorem nz_X7 : Cond.initialized RX7 ∈ vGW := vGW_at 4 (by decide +kernel) (by decide +kernel)
theorem ni_X9 : Cond.instantiable RX9 3 ∈ vGW := vGW_at 85 (by decide +kernel) (by decide +kernel)
theorem nz_X9 : Cond.initialized RX9 ∈ vGW := vGW_at 6 (by decide +kernel) (by decide +kernel)
theorem ni_X10 : Cond.instantiable RX10 12 ∈ vGW := vGW_at 48 (by decide +kernel) (by decide +kernel)
theorem nz_X10 : Cond.initialized RX10 ∈ vGW := vGW_at 2 (by decide +kernel) (by decide +kernel)
theorem ni_X11 : Cond.instantiable RX11 8 ∈ vGW := vGW_at 36 (by decide +kernel) (by decide +kernel)
theorem nz_X11 : Cond.initialized RX11 ∈ vGW := vGW_at 1 (by decide +kernel) (by decide +kernel)
theorem ni_X12 : Cond.instantiable RX12 49 ∈ vGW := vGW_at 1092 (by decide +kernel) (by decide +kernel)
theorem nz_X12 : Cond.initialized RX12 ∈ vGW := vGW_at 15 (by decide +kernel) (by decide +kernel)
theorem nwL_8 : vNew RL 8 8 zX11 := ⟨RX11, TX11, 8, tyX11, rfl, ivw_X11, tyX11_ok, vGW_at 35 (by decide +kernel) (by decide +kernel), ni_X11, nz_X11, rfl⟩
theorem clX11_10 : Cond.classLink RX11 10 "[[B" ∈ vGW := vGW_at 44 (by decide +kernel) (by decide +kernel)
theorem nwX11_34 : vNew RX11 34 7 zX10 := ⟨RX10, TX10, 12, tyX10, rfl, ivw_X10, tyX10_ok, vGW_at 47 (by decide +kernel) (by decide +kernel), ni_X10, nz_X10, rfl⟩
theorem nwX11_36 : vNew RX11 36 5 zX7 := ⟨RX7, TX7, 4, tyX7, rfl, ivw_X7, tyX7_ok, vGW_at 49 (by decide +kernel) (by decide +kernel), ni_X7, nz_X7, rfl⟩
theorem nwX7_1 : vNew RX7 1 0 zX0 := ⟨RX0, TX0, 5, tyX0, rfl, ivw_X0, tyX0_ok, vGW_at 54 (by decide +kernel) (by decide +kernel), ni_X0, nz_X0, rfl⟩
theorem nwX7_12 : vNew RX7 12 6 zX9 := ⟨RX9, TX9, 3, tyX9, rfl, ivw_X9, tyX9_ok, vGW_at 84 (by decide +kernel) (by decide +kernel), ni_X9, nz_X9, rfl⟩
theorem nwX10_54 : vNew RX10 54 1 zX1 := ⟨RX1, TX1, 7, tyX1, rfl, ivw_X1, tyX1_ok, vGW_at 136 (by decide +kernel) (by decide +kernel), ni_X1, nz_X1, rfl⟩
theorem nwX11_46 : vNew RX11 46 3 zX5 := ⟨RX5, TX5, 8, tyX5, rfl, ivw_X5, tyX5_ok, vGW_at 209 (by decide +kernel) (by decide +kernel), ni_X5, nz_X5, rfl⟩
theorem nwX5_1 : vNew RX5 1 0 zX0 := ⟨RX0, TX0, 5, tyX0, rfl, ivw_X0, tyX0_ok, vGW_at 214 (by decide +kernel) (by decide +kernel), ni_X0, nz_X0, rfl⟩
theorem nwX5_12 : vNew RX5 12 2 zX4 := ⟨RX4, TX4, 8, tyX4, rfl, ivw_X4, tyX4_ok, vGW_at 217 (by decide +kernel) (by decide +kernel), ni_X4, nz_X4, rfl⟩
theorem nwX5_23 : vNew RX5 23 4 zX6 := ⟨RX6, TX6, 8, tyX6, rfl, ivw_X6, tyX6_ok, vGW_at 260 (by decide +kernel) (by decide +kernel), ni_X6, nz_X6, rfl⟩
theorem nwL_60 : vNew RL 60 9 zX12 := ⟨RX12, TX12, 49, tyX12, rfl, ivw_X12, tyX12_ok, vGW_at 1091 (by decide +kernel) (by decide +kernel), ni_X12, nz_X12, rfl⟩
theorem clX12_14 : Cond.classLink RX12 14 "[[B" ∈ vGW := vGW_at 1098 (by decide +kernel) (by decide +kernel)
theorem vw_cpyX11 : Cond.methodLink RX11 134 arraycopyName ∈ vGW := vGW_at 439 (by decide +kernel) (by decide +kernel)
section VNew
variable {G : vG} {B : Nat} {p : Program} {l : Launch} {e : Env} {R : Room} {s : State} {m : MethodId} {args : Array Value} {below : List Frame} {meth : Method} {c : Code} {nL cells slots : Nat} {Q : State → Prop} {w : vW} {cc : ByteArray} {ret : Option FieldType} {own : String} {pc pc' : Nat} {lv : List (Nat × Value)} {st : List Value}
theorem v_new (C : vC G B p m meth c cc nL ret s args own) {ci index d1 mc1 ms1 : Nat} {fs : List Value} (hR : R = vRm d1 mc1 ms1) (hn : vNew own index ci fs) (hrm : cells + 1 ≤ mc1 ∧ slots + fs.length ≤ ms1) (hd : vD cc pc (.new index) 3 pc') (k : ∀ a, w a = none → B ≤ a → V G B p l e R s m args below meth c nL (cells + 1) (slots + fs.length) Q (vUp w a (eO ci fs)) pc' lv (.ref a :: st)) : V G B p l e R s m args below meth c nL cells slots Q w pc lv st := by
  subst hR
  obtain ⟨Cn, T, N, ty, hc, hin, hty, hcl, hinst, hini, hfs⟩ := hn
  have hN : fs.length = N := by rw [← hfs]; simp
  rw [hN] at hrm k
  intro H locs ls h1 h2 h3
  obtain ⟨ws, hP, hD, hH⟩ := h1
  refine va_new C.1.1 C.1.2.1 C.1.2.2.2.2 hin ty hty C.1.2.2.2.1 (C.1.2.2.2.2 _ hcl) (C.1.2.2.2.2 _ hinst) (C.1.2.2.2.2 _ hini) C.2.1.1 hP hD h2 (fun q hq => Nat.le_trans C.2.1.2.1 hq) hc (fs := fs) (fun j hj => by rw [← hfs]; simp [vp_V, List.getD, hj]) hrm.1 hrm.2 hd.1 (fun q H1 hP1 hD1 hS1 => ?_)
  have k := k q (v_fresh hD1 hH) (hD1.2 ws.length _ v_lastA)
  rw [hd.2] at k
  exact k H1 locs ls ⟨_, hP1, hD1, hH.push⟩ hS1 h3
/-- statics: a value that lies at the start -/
theorem v_gets (C : vC G B p m meth c cc nL ret s args own) {Cs n d : String} {v : Value} {index : Nat} (hZ : va_Z Cs n d v (fun q => B ≤ q) s s.heap) (hlink : Cond.fieldLink own index Cs n d ∈ vGW) (hd : vD cc pc (.getstatic index) 3 pc') (k : V G B p l e R s m args below meth c nL cells slots Q w pc' lv (v :: st)) : V G B p l e R s m args below meth c nL cells slots Q w pc lv st := by
  intro H locs ls h1 h2 h3
  have k := k H locs ls h1 h2 h3
  rw [hd.2] at k
  exact va_gets C.1.1 C.1.2.1 hZ h2 C.1.2.2.2.1 (C.1.2.2.2.2 _ hlink) (fun _ h => h) hd.1 k
theorem v_small (C : vC G B p m meth c cc nL ret s args own) {index : Nat} (hlink : Cond.fieldLink own index "HashTreeSigner$Sizes" "SMALL_16" "LHashTreeSigner$Sizes;" ∈ vGW) (hd : vD cc pc (.getstatic index) 3 pc') (k : V G B p l e R s m args below meth c nL cells slots Q w pc' lv (.ref (G.2 20) :: st)) : V G B p l e R s m args below meth c nL cells slots Q w pc lv st :=
  v_gets C (C.2.1.2.2.2.1.2.2.2.2.1 0 (by decide)).1 hlink hd k
theorem v_sizes (C : vC G B p m meth c cc nL ret s args own) {index : Nat} (hlink : Cond.fieldLink own index "HashTreeSigner" "SIZES" "[LHashTreeSigner$Sizes;" ∈ vGW) (hd : vD cc pc (.getstatic index) 3 pc') (k : V G B p l e R s m args below meth c nL cells slots Q w pc' lv (.ref (G.2 13) :: st)) : V G B p l e R s m args below meth c nL cells slots Q w pc lv st :=
  v_gets C C.2.1.2.2.2.1.2.2.2.1.1 hlink hd k
theorem v_sizeAt (C : vC G B p m meth c cc nL ret s args own) {i : Int32} (j : Nat) (hi : i = nI j) (hj : j < 6) (hd : vD cc pc .aaload 1 pc') (k : V G B p l e R s m args below meth c nL cells slots Q w pc' lv (.ref (G.2 (20 + j)) :: st)) : V G B p l e R s m args below meth c nL cells slots Q w pc lv (.int i :: .ref (G.2 13) :: st) := by
  subst hi
  intro H locs ls h1 h2 h3
  have k := k H locs ls h1 h2 h3
  rw [hd.2] at k
  refine vb_tq C.1.1 C.1.2.1 C.2.1.2.2.2.1.2.2.2.1.2 h2 (vp_in_nI hj (by decide)) (v := .ref (G.2 (20 + j))) ?_ hd.1 k
  rw [nI_clamp (by omega)]
theorem v_getE (C : vC G B p m meth c cc nL ret s args own) {index : Nat} (j : Nat) (hj : j < 6) (n : String) (L : List Int32) (hq : ("HashTreeSigner$Sizes", n, "I", L) ∈ eFl) (hlink : Cond.fieldLink own index "HashTreeSigner$Sizes" n "I" ∈ vGW) (hd : vD cc pc (.getfield index) 3 pc') (k : V G B p l e R s m args below meth c nL cells slots Q w pc' lv (.int (L.getD j 0) :: st)) : V G B p l e R s m args below meth c nL cells slots Q w pc lv (.ref (G.2 (20 + j)) :: st) := by
  intro H locs ls h1 h2 h3
  have k := k H locs ls h1 h2 h3
  rw [hd.2] at k
  exact va_getE C.1.1 C.1.2.1 (i := j) C.2.1.2.2.2.1.2.2.2.2 (by show j < 6; exact hj) h2 C.1.2.2.2.1 (q := ("HashTreeSigner$Sizes", n, "I", L)) hq (C.1.2.2.2.2 _ hlink) (fun _ h => h) hd.1 k
end VNew
