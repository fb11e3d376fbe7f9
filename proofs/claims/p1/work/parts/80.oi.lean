/-! Object.<init> -/
theorem oi_X11 : Cond.methodLink RX11 1 objectInit ∈ vGW := vGW_at 40 (by decide +kernel) (by decide +kernel)
theorem vw_oi : Cond.instanceMethod objectInit ∈ vGW := vGW_at 41 (by decide +kernel) (by decide +kernel)
theorem vw_oc : Cond.code objectInit ⟨#[0xb1]⟩ 1 none ∈ vGW := vGW_at 42 rfl rfl
theorem oi_X0 : Cond.methodLink RX0 1 objectInit ∈ vGW := vGW_at 59 (by decide +kernel) (by decide +kernel)
theorem oi_X2 : Cond.methodLink RX2 1 objectInit ∈ vGW := vGW_at 83 (by decide +kernel) (by decide +kernel)
theorem oi_X9 : Cond.methodLink RX9 1 objectInit ∈ vGW := vGW_at 89 (by decide +kernel) (by decide +kernel)
theorem oi_X10 : Cond.methodLink RX10 1 objectInit ∈ vGW := vGW_at 133 (by decide +kernel) (by decide +kernel)
theorem oi_X1 : Cond.methodLink RX1 1 objectInit ∈ vGW := vGW_at 141 (by decide +kernel) (by decide +kernel)
theorem oi_X3 : Cond.methodLink RX3 1 objectInit ∈ vGW := vGW_at 225 (by decide +kernel) (by decide +kernel)
theorem oi_X12 : Cond.methodLink RX12 1 objectInit ∈ vGW := vGW_at 1096 (by decide +kernel) (by decide +kernel)
section VOi
variable {G : vG} {B : Nat} {p : Program} {l : Launch} {e : Env} {R : Room} {s : State} {m : MethodId} {args : Array Value} {below : List Frame} {meth : Method} {c : Code} {nL cells slots : Nat} {Q : State → Prop} {w : vW} {cc : ByteArray} {ret : Option FieldType} {own : String} {pc pc' : Nat} {lv : List (Nat × Value)} {st : List Value}
theorem v_objInit (C : vC G B p m meth c cc nL ret s args own) {a idx d1 mc1 ms1 : Nat} (hR : R = vRm d1 mc1 ms1) (h1 : 1 ≤ d1) (hl : Cond.methodLink own idx objectInit ∈ vGW) (hd : vD cc pc (.invokespecial idx) 3 pc') (hroom : (st.map fun v => v.category).sum ≤ 8) (k : V G B p l e R s m args below meth c nL cells slots Q w pc' lv st) : V G B p l e R s m args below meth c nL cells slots Q w pc lv (.ref a :: st) := by
  subst hR
  intro H locs ls g1 g2 g3
  have k := k H locs ls g1 g2 g3
  rw [hd.2] at k
  refine W.objInit C.1.1 C.1.2.1 C.1.2.2.2.1 (C.1.2.2.2.2 _ hl) (C.1.2.2.2.2 _ vw_oi) (C.1.2.2.2.2 _ vw_oc) rfl (by rw [C.1.2.2.1]; exact g3.1) rfl hd.1 h1 ?_ k
  show 2 * 0 + _ + 12 ≤ 100 * d1
  omega
end VOi
