/-! rows that make arrays; final fields in a constructor -/
theorem vw_ac_byte : Cond.arrayClass .byte ∈ vGW := vGW_at 78 (by decide +kernel) (by decide +kernel)
theorem vw_ac_int : Cond.arrayClass .int ∈ vGW := vGW_at 79 (by decide +kernel) (by decide +kernel)
theorem vw_ac_long : Cond.arrayClass .long ∈ vGW := vGW_at 100 (by decide +kernel) (by decide +kernel)
def vNf (w : Cond) : Bool := match w with
  | .fieldLinkNest .. => false
  | _ => true
theorem vNW_nf : vNW.all vNf = true := by decide +kernel
theorem v_lastA {ws : va_W} {q : Nat} {e : va_E} : (ws ++ [(q, e)])[ws.length]? = some (q, e) := by simp
theorem v_fresh {A : Nat → Prop} {w : vW} {ws : va_W} {q : Nat} {e : va_E} (hD : va_D A (ws ++ [(q, e)])) (hH : vHas w ws) : w q = none := by
  cases h : w q with
  | none => rfl
  | some e' =>
    obtain ⟨k, hk⟩ := hH q e' h
    have hlt : k < ws.length := (List.getElem?_eq_some_iff.mp hk).1
    have := hD.1 k ws.length (q, e') (q, e) (by rw [List.getElem?_append_left hlt]; exact hk) (by simp) rfl
    omega
section VAl
variable {G : vG} {B : Nat} {p : Program} {l : Launch} {e : Env} {R : Room} {s : State} {m : MethodId} {args : Array Value} {below : List Frame} {meth : Method} {c : Code} {nL cells slots : Nat} {Q : State → Prop} {w : vW} {cc : ByteArray} {ret : Option FieldType} {own : String} {pc pc' : Nat} {lv : List (Nat × Value)} {st : List Value}
theorem v_newB (C : vC G B p m meth c cc nL ret s args own) {n d1 mc1 ms1 : Nat} {i : Int32} (hR : R = vRm d1 mc1 ms1) (hd : vD cc pc (.newarray .byte) 2 pc') (hi : i = nI n) (hn : n ≤ 67108864) (hrm : cells + 1 ≤ mc1 ∧ slots + n ≤ ms1) (k : ∀ a, w a = none → B ≤ a → V G B p l e R s m args below meth c nL (cells + 1) (slots + n) Q (vUp w a (eB G n (fun _ => 0))) pc' lv (.ref a :: st)) : V G B p l e R s m args below meth c nL cells slots Q w pc lv (.int i :: st) := by
  subst hi; subst hR
  intro H locs ls h1 h2 h3
  obtain ⟨ws, hP, hD, hH⟩ := h1
  refine va_newa C.1.1 C.1.2.1 (atype := .byte) (C.1.2.2.2.2 _ vw_ac_byte) (ty := .byte) rfl C.2.1.1 hP hD h2 (fun q hq => Nat.le_trans C.2.1.2.1 hq) (a0 := (n, .inl (fun _ => 0))) (fun cA => rfl) (nI_pos (by omega)) (nI_clamp (by omega)) (show n * 1 ≤ 536870912 by omega) hrm.1 hrm.2 hd.1 (fun q cA H1 hK1 hP1 hD1 hS1 => ?_)
  have e1 : s.vm.findClass _ = some cA := (hK1.2 4 (cA, .byte) rfl).2
  have e0 : s.vm.findClass _ = some (G.2 0) := (C.2.1.1.2 0 (G.2 0, .byte) rfl).2
  have ec : cA = G.2 0 := Option.some.inj (e1.symm.trans e0)
  subst ec
  have k := k q (v_fresh hD1 hH) (hD1.2 ws.length _ v_lastA)
  rw [hd.2] at k
  exact k H1 locs ls ⟨_, hP1, hD1, hH.push⟩ hS1 h3
theorem v_newI (C : vC G B p m meth c cc nL ret s args own) {n d1 mc1 ms1 : Nat} {i : Int32} (hR : R = vRm d1 mc1 ms1) (hd : vD cc pc (.newarray .int) 2 pc') (hi : i = nI n) (hn : n ≤ 67108864) (hrm : cells + 1 ≤ mc1 ∧ slots + n ≤ ms1) (k : ∀ a, w a = none → B ≤ a → V G B p l e R s m args below meth c nL (cells + 1) (slots + n) Q (vUp w a (eI G n (fun _ => 0))) pc' lv (.ref a :: st)) : V G B p l e R s m args below meth c nL cells slots Q w pc lv (.int i :: st) := by
  subst hi; subst hR
  intro H locs ls h1 h2 h3
  obtain ⟨ws, hP, hD, hH⟩ := h1
  refine va_newa C.1.1 C.1.2.1 (atype := .int) (C.1.2.2.2.2 _ vw_ac_int) (ty := .int) rfl C.2.1.1 hP hD h2 (fun q hq => Nat.le_trans C.2.1.2.1 hq) (a0 := (n, .inl (fun _ => 0))) (fun cA => rfl) (nI_pos (by omega)) (nI_clamp (by omega)) (show n * 4 ≤ 536870912 by omega) hrm.1 hrm.2 hd.1 (fun q cA H1 hK1 hP1 hD1 hS1 => ?_)
  have e1 : s.vm.findClass _ = some cA := (hK1.2 4 (cA, .int) rfl).2
  have e0 : s.vm.findClass _ = some (G.2 1) := (C.2.1.1.2 1 (G.2 1, .int) rfl).2
  have ec : cA = G.2 1 := Option.some.inj (e1.symm.trans e0)
  subst ec
  have k := k q (v_fresh hD1 hH) (hD1.2 ws.length _ v_lastA)
  rw [hd.2] at k
  exact k H1 locs ls ⟨_, hP1, hD1, hH.push⟩ hS1 h3
theorem v_newJ (C : vC G B p m meth c cc nL ret s args own) {n d1 mc1 ms1 : Nat} {i : Int32} (hR : R = vRm d1 mc1 ms1) (hd : vD cc pc (.newarray .long) 2 pc') (hi : i = nI n) (hn : n ≤ 67108864) (hrm : cells + 1 ≤ mc1 ∧ slots + n ≤ ms1) (k : ∀ a, w a = none → B ≤ a → V G B p l e R s m args below meth c nL (cells + 1) (slots + n) Q (vUp w a (eJ G n (fun _ => 0))) pc' lv (.ref a :: st)) : V G B p l e R s m args below meth c nL cells slots Q w pc lv (.int i :: st) := by
  subst hi; subst hR
  intro H locs ls h1 h2 h3
  obtain ⟨ws, hP, hD, hH⟩ := h1
  refine va_newa C.1.1 C.1.2.1 (atype := .long) (C.1.2.2.2.2 _ vw_ac_long) (ty := .long) rfl C.2.1.1 hP hD h2 (fun q hq => Nat.le_trans C.2.1.2.1 hq) (a0 := (n, .inr (.inl (fun _ => 0)))) (fun cA => rfl) (nI_pos (by omega)) (nI_clamp (by omega)) (show n * 8 ≤ 536870912 by omega) hrm.1 hrm.2 hd.1 (fun q cA H1 hK1 hP1 hD1 hS1 => ?_)
  have e1 : s.vm.findClass _ = some cA := (hK1.2 4 (cA, .long) rfl).2
  have e0 : s.vm.findClass _ = some (G.2 2) := (C.2.1.1.2 2 (G.2 2, .long) rfl).2
  have ec : cA = G.2 2 := Option.some.inj (e1.symm.trans e0)
  subst ec
  have k := k q (v_fresh hD1 hH) (hD1.2 ws.length _ v_lastA)
  rw [hd.2] at k
  exact k H1 locs ls ⟨_, hP1, hD1, hH.push⟩ hS1 h3
theorem v_putF (C : vC G B p m meth c cc nL ret s args own) {a ci index k0 : Nat} {fs : List Value} {v : Value} {ty : FieldType} (hf : vFldF own index ci k0 ty) (hin : meth.name = "<init>") (hd : vD cc pc (.putfield index) 3 pc') (hw : w a = some (eO ci fs)) (hn : narrow ty v = v) (hfit : fits ty v = true) (hl : k0 < fs.length) (k : V G B p l e R s m args below meth c nL cells slots Q (vUp w a (eO ci (fs.set k0 v))) pc' lv st) : V G B p l e R s m args below meth c nL cells slots Q w pc lv (v :: .ref a :: st) := by
  intro H locs ls h1 h2 h3
  rw [hd.2] at k
  obtain ⟨ws, hP, hD, hH⟩ := h1
  obtain ⟨q0, hq⟩ := hH _ _ hw
  obtain ⟨Cn, T, N, ref, host, ty0, hc, hk, hins, hlink, hsame, hty, hnm, hfin, hdecl, hpd⟩ := hf
  have hS : ∀ x, s.fieldFound? (T k0).1 (T k0).2.1 (T k0).2.2.1 = some x → s.fieldFound? ref (T k0).2.1 (T k0).2.2.1 = some x := by
    rcases hsame with h | h
    · intro x hx; rw [h]; exact hx
    · exact fun x hx => u_same (C.1.2.2.2.2 _ h) x hx
  rcases hlink with h | h
  · exact va_putF C.1.1 C.1.2.1 C.1.2.2.2.2 hins ty0 hty hnm C.1.2.2.2.1 C.2.1.1 hP hD h2 q0 hq hc k0 hk (C.1.2.2.2.2 _ h) hS hfin hin hdecl hpd hn hfit hl hd.1 (fun H1 locs1 hP1 hD1 hS1 => k H1 locs1 ls ⟨_, hP1, hD1, hH.set hD hq⟩ hS1 h3)
  · exact absurd (List.all_eq_true.mp vNW_nf _ h) (by simp [vNf])
end VAl
