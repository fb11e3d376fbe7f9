/-! THE HASH'S CELLS HIDDEN (draft, not yet compiled): names 13 .. 17 and the ints 18, 19, 20 and the total of 49 are anything -/
def ag (x' x : Nat → Int32) : Prop := ∀ j, j ≠ 18 → j ≠ 19 → j ≠ 20 → x' j = x j
theorem ag.rf {x : Nat → Int32} : ag x x := fun _ _ _ _ => rfl
theorem ag.tr {x y z : Nat → Int32} (h : ag x y) (g : ag y z) : ag x z := fun j a b c => (h j a b c).trans (g j a b c)
def sOk (G : vG) (B : Nat) (l : Launch) (ad : Nat → Nat) (N : Nat) (y : MethodName) (bytes : ByteArray) (maxL : Nat) (ret : Option FieldType) (d mc ms : Nat) (av : List Value) (σ : nS) (x : Nat → Int32) (post : Option Value → nS → Prop) : Prop :=
  ∀ (x' : Nat → Int32) (h' : hT), ag x' x → nOk G B l ad N y bytes maxL ret d mc ms av (gσ G ad σ x' h') (fun r τ => ∃ (σ1 : nS) (x1 : Nat → Int32) (h1 : hT), ag x1 x ∧ τ = gσ G ad σ1 x1 h1 ∧ post r σ1)
section SFor
variable {G : vG} {B : Nat} {p : Program} {l : Launch} {e : Env} {R : Room} {s : State} {m : MethodId} {args : Array Value} {below : List Frame} {meth : Method} {c : Code} {nL cells slots : Nat} {Q : State → Prop} {ad : Nat → Nat} {N : Nat} {hd : Nat} {st : List Value} {x : Nat → Int32}
theorem v_forS (τ : Nat → nS) (L : Nat → List (Nat × Value)) (n : Nat) (hend : ∀ x' h', ag x' x → V G B p l e R s m args below meth c nL cells slots Q (nW ad N (gσ G ad (τ n) x' h')) hd (L n) st) (hstep : ∀ i, i < n → (∀ x' h', ag x' x → V G B p l e R s m args below meth c nL cells slots Q (nW ad N (gσ G ad (τ (i + 1)) x' h')) hd (L (i + 1)) st) → ∀ x' h', ag x' x → V G B p l e R s m args below meth c nL cells slots Q (nW ad N (gσ G ad (τ i) x' h')) hd (L i) st) : ∀ x' h', ag x' x → V G B p l e R s m args below meth c nL cells slots Q (nW ad N (gσ G ad (τ 0) x' h')) hd (L 0) st :=
  v_for (P := fun i => ∀ x' h', ag x' x → V G B p l e R s m args below meth c nL cells slots Q (nW ad N (gσ G ad (τ i) x' h')) hd (L i) st) n hend hstep
end SFor
