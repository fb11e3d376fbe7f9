/-! cells laid one after the other; blocks of constructors -/
theorem vUp_two {w : vW} {o : Nat} {e e' : va_E} : vUp (vUp w o e) o e' = vUp w o e' := by
  funext b
  by_cases h : b = o
  · subst h; rw [vUp_self, vUp_self]
  · rw [vUp_ne h, vUp_ne h, vUp_ne h]
theorem vUp_com {w : vW} {a o : Nat} {x y : va_E} (h : a ≠ o) : vUp (vUp w a x) o y = vUp (vUp w o y) a x := by
  funext b
  by_cases h1 : b = o
  · subst h1; rw [vUp_self, vUp_ne (Ne.symm h), vUp_self]
  · by_cases h2 : b = a
    · subst h2; rw [vUp_ne h1, vUp_self, vUp_self]
    · rw [vUp_ne h1, vUp_ne h2, vUp_ne h2, vUp_ne h1]
theorem vUp_none {w : vW} {a o : Nat} {e : va_E} (h : vUp w o e a = none) : a ≠ o ∧ w a = none := by
  by_cases q : a = o
  · subst q; rw [vUp_self] at h; cases h
  · rw [vUp_ne q] at h; exact ⟨q, h⟩
theorem vUp_mono {w w' : vW} {o : Nat} {e : va_E} (h : ∀ a x, w a = some x → w' a = some x) : ∀ a x, vUp w o e a = some x → vUp w' o e a = some x := fun a x hx => by
  by_cases q : a = o
  · subst q; rw [vUp_self] at hx ⊢; exact hx
  · rw [vUp_ne q] at hx ⊢; exact h a x hx
def lB (w0 : vW) : List (Nat × va_E) → vW
  | [] => w0
  | x :: L => vUp (lB w0 L) x.1 x.2
def lF (w0 : vW) : List (Nat × va_E) → Prop
  | [] => True
  | x :: L => lB w0 L x.1 = none ∧ lF w0 L
def oF (w0 : vW) (o n : Nat) (L : List (Nat × va_E)) (fs : List Value) : Prop := lF w0 L ∧ lB w0 L o = none ∧ fs.length = n
theorem lB_app {w0 : vW} {L : List (Nat × va_E)} : ∀ {K : List (Nat × va_E)}, lB w0 (K ++ L) = lB (lB w0 L) K
  | [] => rfl
  | x :: K => by
    show vUp (lB w0 (K ++ L)) x.1 x.2 = vUp (lB (lB w0 L) K) x.1 x.2
    rw [lB_app]
theorem lF_app {w0 : vW} {L : List (Nat × va_E)} : ∀ {K : List (Nat × va_E)}, lF w0 L → lF (lB w0 L) K → lF w0 (K ++ L)
  | [], h, _ => h
  | x :: K, h, g => ⟨by show lB w0 (K ++ L) x.1 = none; rw [lB_app]; exact g.1, lF_app h g.2⟩
/-- a cell below comes to the top -/
theorem lB_com {w0 : vW} {o : Nat} {e : va_E} : ∀ {L : List (Nat × va_E)}, lF (vUp w0 o e) L → lB (vUp w0 o e) L = vUp (lB w0 L) o e ∧ lF w0 L ∧ lB w0 L o = w0 o
  | [], _ => ⟨rfl, trivial, rfl⟩
  | x :: L, h => by
    obtain ⟨h1, h2⟩ := h
    obtain ⟨g1, g2, g3⟩ := lB_com h2
    rw [g1] at h1
    obtain ⟨k1, k2⟩ := vUp_none h1
    refine ⟨?_, ⟨k2, g2⟩, ?_⟩
    · show vUp (lB (vUp w0 o e) L) x.1 x.2 = vUp (vUp (lB w0 L) x.1 x.2) o e
      rw [g1, vUp_com k1]
    · show vUp (lB w0 L) x.1 x.2 o = w0 o
      rw [vUp_ne (Ne.symm k1)]; exact g3
theorem lB_keep {w0 : vW} : ∀ {L : List (Nat × va_E)}, lF w0 L → ∀ a x, w0 a = some x → lB w0 L a = some x
  | [], _, _, _, h => h
  | y :: L, g, a, x, h => by
    have k := lB_keep g.2 a x h
    have : a ≠ y.1 := fun q => by rw [q, g.1] at k; cases k
    show vUp (lB w0 L) y.1 y.2 a = some x
    rw [vUp_ne this]; exact k
theorem lB_at {w0 : vW} : ∀ {L : List (Nat × va_E)}, lF w0 L → ∀ (k : Nat) (x : Nat × va_E), L[k]? = some x → lB w0 L x.1 = some x.2
  | [], _, k, x, h => by simp at h
  | y :: L, g, 0, x, h => by
    cases h
    exact vUp_self
  | y :: L, g, k + 1, x, h => by
    have h' : L[k]? = some x := by simpa using h
    have q := lB_at g.2 k x h'
    have : x.1 ≠ y.1 := fun r => by rw [r, g.1] at q; cases q
    show vUp (lB w0 L) y.1 y.2 x.1 = some x.2
    rw [vUp_ne this]; exact q
theorem lB_apart {w0 : vW} : ∀ {L : List (Nat × va_E)}, lF w0 L → ∀ (i j : Nat) (x y : Nat × va_E), L[i]? = some x → L[j]? = some y → x.1 = y.1 → i = j
  | [], _, i, j, x, y, h, _, _ => by simp at h
  | z :: L, g, 0, 0, x, y, h, h2, r => rfl
  | z :: L, g, 0, j + 1, x, y, h, h2, r => by
    cases h
    have q := lB_at g.2 j y (by simpa using h2)
    rw [← r, g.1] at q; cases q
  | z :: L, g, i + 1, 0, x, y, h, h2, r => by
    cases h2
    have q := lB_at g.2 i x (by simpa using h)
    rw [r, g.1] at q; cases q
  | z :: L, g, i + 1, j + 1, x, y, h, h2, r => by
    rw [lB_apart g.2 i j x y (by simpa using h) (by simpa using h2) r]
/-- a list of cells by names: name k is the cell at place P k -/
def lA (L : List (Nat × va_E)) (P : List Nat) : Nat → Nat := fun k => (L.getD (P.getD k 0) (0, eO 0 [])).1
def lC (L : List (Nat × va_E)) (P : List Nat) : nS := fun k => (L.getD (P.getD k 0) (0, eO 0 [])).2
theorem lA_at {L : List (Nat × va_E)} {P : List Nat} {k : Nat} (h : P.getD k 0 < L.length) : L[P.getD k 0]? = some (lA L P k, lC L P k) := by
  unfold lA lC
  generalize P.getD k 0 = i at h
  rw [List.getD_eq_getElem?_getD, List.getElem?_eq_getElem h]
  rfl
theorem lA_apart {w0 : vW} {L : List (Nat × va_E)} {P : List Nat} {N : Nat} (g : lF w0 L) (h : ∀ k, k < N → P.getD k 0 < L.length) (hP : ∀ i, i < N → ∀ j, j < N → P.getD i 0 = P.getD j 0 → i = j) : nI1 (lA L P) N := fun i j hi hj r =>
  hP i hi j hj (lB_apart g _ _ _ _ (lA_at (h i hi)) (lA_at (h j hj)) r)
theorem nW_some {ad : Nat → Nat} {N : Nat} {σ : nS} {a : Nat} {x : va_E} (h : nW ad N σ a = some x) : ∃ k, k < N ∧ ad k = a ∧ σ k = x := by
  unfold nW at h
  cases hf : (List.range N).find? (fun j => ad j == a) with
  | none => rw [hf] at h; cases h
  | some j =>
    rw [hf] at h
    have h1 := List.find?_some hf
    have h2 := List.mem_range.mp (List.mem_of_find?_eq_some hf)
    exact ⟨j, h2, by simpa using h1, by simpa using h⟩
theorem lA_sub {w0 : vW} {L : List (Nat × va_E)} {P : List Nat} {N : Nat} (g : lF w0 L) (h : ∀ k, k < N → P.getD k 0 < L.length) : ∀ a x, nW (lA L P) N (lC L P) a = some x → lB w0 L a = some x := fun a x q => by
  obtain ⟨k, hk, rfl, rfl⟩ := nW_some q
  exact lB_at g _ _ (lA_at (h k hk))
/-- a further name -/
def snoc (ad : Nat → Nat) (N a : Nat) : Nat → Nat := fun k => if k = N then a else ad k
theorem snoc_lt {ad : Nat → Nat} {N a k : Nat} (h : k < N) : snoc ad N a k = ad k := if_neg (by omega)
theorem snoc_at {ad : Nat → Nat} {N a : Nat} : snoc ad N a N = a := if_pos rfl
theorem nW_new {ad : Nat → Nat} {N a : Nat} {σ : nS} {x : va_E} (I : nI1 ad N) (h : nW ad N σ a = none) : nI1 (snoc ad N a) (N + 1) ∧ ∀ b y, nW (snoc ad N a) (N + 1) (va_up σ N x) b = some y → vUp (nW ad N σ) a x b = some y := by
  have ne : ∀ k, k < N → ad k ≠ a := fun k hk q => by rw [← q, nW_at I hk] at h; cases h
  refine ⟨fun i j hi hj r => ?_, fun b y q => ?_⟩
  · by_cases h1 : i < N <;> by_cases h2 : j < N
    · rw [snoc_lt h1, snoc_lt h2] at r; exact I i j h1 h2 r
    · have : j = N := by omega
      subst this
      rw [snoc_lt h1, snoc_at] at r; exact absurd r (ne i h1)
    · have : i = N := by omega
      subst this
      rw [snoc_lt h2, snoc_at] at r; exact absurd r.symm (ne j h2)
    · omega
  · obtain ⟨k, hk, e1, e2⟩ := nW_some q
    by_cases h1 : k < N
    · rw [snoc_lt h1] at e1
      subst e1
      rw [vUp_ne (ne k h1), nW_at I h1, ← e2]
      simp [va_up, show k ≠ N by omega]
    · have : k = N := by omega
      subst this
      rw [snoc_at] at e1
      subst e1
      rw [vUp_self, ← e2]
      simp [va_up]
section VCon
variable {G : vG} {B : Nat} {p : Program} {l : Launch} {e : Env} {R : Room} {s : State} {m : MethodId} {args : Array Value} {below : List Frame} {meth : Method} {c : Code} {nL cells slots : Nat} {Q : State → Prop} {w w0 : vW} {cc : ByteArray} {ret : Option FieldType} {own : String} {pc pc' pc1 pc2 pc3 pc4 : Nat} {lv : List (Nat × Value)} {st : List Value}
theorem vOk.ofI {y : MethodName} {bytes : ByteArray} {maxL d mc ms : Nat} {av : List Value} {post : Option Value → vW → Prop} (hy : plainName y.cls = true) (hlen : (lg_sl av).length ≤ maxL)
    (h : ∀ (p : Program) (e : Env) (s : State) (m : MethodId) (args : Array Value) (below : List Frame) (meth : Method) (c : Code), vC G B p m meth c bytes maxL ret s args y.cls → meth.name = y.name → V G B p l e (vRm d mc ms) s m args below meth c maxL 0 0 (MQ below (vQ G B post) args s mc ms (fun q => B ≤ q)) w 0 (lv_args 0 av) []) : vOk G B l y bytes maxL ret d mc ms av w post := by
  refine Met.ofW (cc := bytes) (maxL := maxL) (ret := ret) hy rfl ?_
  intro p e s m args below meth c s₁ Bd hml hv
  obtain ⟨rfl, hE, hW⟩ := hv
  have hts := atoms_spec (ws := Cond.code y bytes maxL ret :: vGW) Bd.pre
  have hown : s.vm.findClass y.cls = some m.cls := findClass_of_methodNamed Bd.named
  have C : vC G B p m meth c bytes maxL ret s av.toArray y.cls := ⟨⟨Bd.exec, Bd.bytes, hml, hown, fun w h => hts w (List.mem_cons_of_mem _ h)⟩, hE, Bd.returns, Bd.notSynchronized⟩
  rw [lg_entry_eq]
  exact h p e s m _ below meth c C (name_of_methodNamed Bd.named Bd.method).1 s.heap [] _ hW va_S.rf (lv_entry av hlen)
theorem v_drop {a : Nat} {x : va_E} (h : w a = none) (k : V G B p l e R s m args below meth c nL cells slots Q w pc lv st) : V G B p l e R s m args below meth c nL cells slots Q (vUp w a x) pc lv st :=
  v_sub (fun b y hb => by
    have : b ≠ a := fun q => by subst q; rw [h] at hb; cases hb
    rw [vUp_ne this]; exact hb) k
/-- the new cell's address into a final field; the cell is kept below the object -/
theorem cb_put (C : vC G B p m meth c cc nL ret s args own) (hin : meth.name = "<init>") {o a n ci idx k0 : Nat} {L : List (Nat × va_E)} {fs : List Value} {x : va_E} {ty : FieldType} (F : oF w0 o n L fs) (ha : vUp (lB w0 L) o (eO ci fs) a = none) (hf : vFldF own idx ci k0 ty) (hty : narrow ty (.ref a) = .ref a ∧ fits ty (.ref a) = true) (hk : k0 < n) (hd : vD cc pc (.putfield idx) 3 pc')
    (kk : oF w0 o n ((a, x) :: L) (fs.set k0 (.ref a)) → V G B p l e R s m args below meth c nL cells slots Q (vUp (lB w0 ((a, x) :: L)) o (eO ci (fs.set k0 (.ref a)))) pc' lv st) : V G B p l e R s m args below meth c nL cells slots Q (vUp (vUp (lB w0 L) o (eO ci fs)) a x) pc lv (.ref a :: .ref o :: st) := by
  obtain ⟨F1, F2, F3⟩ := F
  obtain ⟨h1, h2⟩ := vUp_none ha
  refine v_putF C hf hin hd (fs := fs) (by rw [vUp_ne (Ne.symm h1)]; exact vUp_self) hty.1 hty.2 (by omega) ?_
  rw [vUp_com h1, vUp_two, ← vUp_com h1]
  exact kk ⟨⟨h2, F1⟩, by show vUp (lB w0 L) a x o = none; rw [vUp_ne (Ne.symm h1)]; exact F2, by simp [F3]⟩
/-- .. and forgotten -/
theorem cb_putD (C : vC G B p m meth c cc nL ret s args own) (hin : meth.name = "<init>") {o a n ci idx k0 : Nat} {L : List (Nat × va_E)} {fs : List Value} {x : va_E} {ty : FieldType} (F : oF w0 o n L fs) (ha : vUp (lB w0 L) o (eO ci fs) a = none) (hf : vFldF own idx ci k0 ty) (hty : narrow ty (.ref a) = .ref a ∧ fits ty (.ref a) = true) (hk : k0 < n) (hd : vD cc pc (.putfield idx) 3 pc')
    (kk : oF w0 o n L (fs.set k0 (.ref a)) → V G B p l e R s m args below meth c nL cells slots Q (vUp (lB w0 L) o (eO ci (fs.set k0 (.ref a)))) pc' lv st) : V G B p l e R s m args below meth c nL cells slots Q (vUp (vUp (lB w0 L) o (eO ci fs)) a x) pc lv (.ref a :: .ref o :: st) := by
  obtain ⟨F1, F2, F3⟩ := F
  obtain ⟨h1, h2⟩ := vUp_none ha
  refine v_putF C hf hin hd (fs := fs) (by rw [vUp_ne (Ne.symm h1)]; exact vUp_self) hty.1 hty.2 (by omega) ?_
  rw [vUp_com h1, vUp_two]
  exact v_drop (by rw [vUp_ne h1]; exact h2) (kk ⟨F1, F2, by simp [F3]⟩)
theorem cb_B (C : vC G B p m meth c cc nL ret s args own) (hin : meth.name = "<init>") {o n ci idx k0 N d1 mc1 ms1 : Nat} {i : Int32} {L : List (Nat × va_E)} {fs : List Value} {ty : FieldType} (F : oF w0 o n L fs) (hR : R = vRm d1 mc1 ms1) (d1' : vD cc pc (.newarray .byte) 2 pc1) (hi : i = nI N) (hn : N ≤ 67108864) (hrm : cells + 1 ≤ mc1 ∧ slots + N ≤ ms1) (hf : vFldF own idx ci k0 ty) (hty : ∀ a : Nat, narrow ty (.ref a) = .ref a ∧ fits ty (.ref a) = true) (hk : k0 < n) (d2' : vD cc pc1 (.putfield idx) 3 pc2)
    (kk : ∀ a : Nat, oF w0 o n ((a, eB G N (fun _ => 0)) :: L) (fs.set k0 (.ref a)) → V G B p l e R s m args below meth c nL (cells + 1) (slots + N) Q (vUp (lB w0 ((a, eB G N (fun _ => 0)) :: L)) o (eO ci (fs.set k0 (.ref a)))) pc2 lv st) : V G B p l e R s m args below meth c nL cells slots Q (vUp (lB w0 L) o (eO ci fs)) pc lv (.int i :: .ref o :: st) :=
  v_newB C hR d1' hi hn hrm (fun a ha _ => cb_put C hin F ha hf (hty a) hk d2' (kk a))
theorem cb_BD (C : vC G B p m meth c cc nL ret s args own) (hin : meth.name = "<init>") {o n ci idx k0 N d1 mc1 ms1 : Nat} {i : Int32} {L : List (Nat × va_E)} {fs : List Value} {ty : FieldType} (F : oF w0 o n L fs) (hR : R = vRm d1 mc1 ms1) (d1' : vD cc pc (.newarray .byte) 2 pc1) (hi : i = nI N) (hn : N ≤ 67108864) (hrm : cells + 1 ≤ mc1 ∧ slots + N ≤ ms1) (hf : vFldF own idx ci k0 ty) (hty : ∀ a : Nat, narrow ty (.ref a) = .ref a ∧ fits ty (.ref a) = true) (hk : k0 < n) (d2' : vD cc pc1 (.putfield idx) 3 pc2)
    (kk : ∀ a : Nat, oF w0 o n L (fs.set k0 (.ref a)) → V G B p l e R s m args below meth c nL (cells + 1) (slots + N) Q (vUp (lB w0 L) o (eO ci (fs.set k0 (.ref a)))) pc2 lv st) : V G B p l e R s m args below meth c nL cells slots Q (vUp (lB w0 L) o (eO ci fs)) pc lv (.int i :: .ref o :: st) :=
  v_newB C hR d1' hi hn hrm (fun a ha _ => cb_putD C hin F ha hf (hty a) hk d2' (kk a))
theorem cb_I (C : vC G B p m meth c cc nL ret s args own) (hin : meth.name = "<init>") {o n ci idx k0 N d1 mc1 ms1 : Nat} {i : Int32} {L : List (Nat × va_E)} {fs : List Value} {ty : FieldType} (F : oF w0 o n L fs) (hR : R = vRm d1 mc1 ms1) (d1' : vD cc pc (.newarray .int) 2 pc1) (hi : i = nI N) (hn : N ≤ 67108864) (hrm : cells + 1 ≤ mc1 ∧ slots + N ≤ ms1) (hf : vFldF own idx ci k0 ty) (hty : ∀ a : Nat, narrow ty (.ref a) = .ref a ∧ fits ty (.ref a) = true) (hk : k0 < n) (d2' : vD cc pc1 (.putfield idx) 3 pc2)
    (kk : ∀ a : Nat, oF w0 o n ((a, eI G N (fun _ => 0)) :: L) (fs.set k0 (.ref a)) → V G B p l e R s m args below meth c nL (cells + 1) (slots + N) Q (vUp (lB w0 ((a, eI G N (fun _ => 0)) :: L)) o (eO ci (fs.set k0 (.ref a)))) pc2 lv st) : V G B p l e R s m args below meth c nL cells slots Q (vUp (lB w0 L) o (eO ci fs)) pc lv (.int i :: .ref o :: st) :=
  v_newI C hR d1' hi hn hrm (fun a ha _ => cb_put C hin F ha hf (hty a) hk d2' (kk a))
theorem cb_ID (C : vC G B p m meth c cc nL ret s args own) (hin : meth.name = "<init>") {o n ci idx k0 N d1 mc1 ms1 : Nat} {i : Int32} {L : List (Nat × va_E)} {fs : List Value} {ty : FieldType} (F : oF w0 o n L fs) (hR : R = vRm d1 mc1 ms1) (d1' : vD cc pc (.newarray .int) 2 pc1) (hi : i = nI N) (hn : N ≤ 67108864) (hrm : cells + 1 ≤ mc1 ∧ slots + N ≤ ms1) (hf : vFldF own idx ci k0 ty) (hty : ∀ a : Nat, narrow ty (.ref a) = .ref a ∧ fits ty (.ref a) = true) (hk : k0 < n) (d2' : vD cc pc1 (.putfield idx) 3 pc2)
    (kk : ∀ a : Nat, oF w0 o n L (fs.set k0 (.ref a)) → V G B p l e R s m args below meth c nL (cells + 1) (slots + N) Q (vUp (lB w0 L) o (eO ci (fs.set k0 (.ref a)))) pc2 lv st) : V G B p l e R s m args below meth c nL cells slots Q (vUp (lB w0 L) o (eO ci fs)) pc lv (.int i :: .ref o :: st) :=
  v_newI C hR d1' hi hn hrm (fun a ha _ => cb_putD C hin F ha hf (hty a) hk d2' (kk a))
theorem cb_J (C : vC G B p m meth c cc nL ret s args own) (hin : meth.name = "<init>") {o n ci idx k0 N d1 mc1 ms1 : Nat} {i : Int32} {L : List (Nat × va_E)} {fs : List Value} {ty : FieldType} (F : oF w0 o n L fs) (hR : R = vRm d1 mc1 ms1) (d1' : vD cc pc (.newarray .long) 2 pc1) (hi : i = nI N) (hn : N ≤ 67108864) (hrm : cells + 1 ≤ mc1 ∧ slots + N ≤ ms1) (hf : vFldF own idx ci k0 ty) (hty : ∀ a : Nat, narrow ty (.ref a) = .ref a ∧ fits ty (.ref a) = true) (hk : k0 < n) (d2' : vD cc pc1 (.putfield idx) 3 pc2)
    (kk : ∀ a : Nat, oF w0 o n ((a, eJ G N (fun _ => 0)) :: L) (fs.set k0 (.ref a)) → V G B p l e R s m args below meth c nL (cells + 1) (slots + N) Q (vUp (lB w0 ((a, eJ G N (fun _ => 0)) :: L)) o (eO ci (fs.set k0 (.ref a)))) pc2 lv st) : V G B p l e R s m args below meth c nL cells slots Q (vUp (lB w0 L) o (eO ci fs)) pc lv (.int i :: .ref o :: st) :=
  v_newJ C hR d1' hi hn hrm (fun a ha _ => cb_put C hin F ha hf (hty a) hk d2' (kk a))
theorem cb_JD (C : vC G B p m meth c cc nL ret s args own) (hin : meth.name = "<init>") {o n ci idx k0 N d1 mc1 ms1 : Nat} {i : Int32} {L : List (Nat × va_E)} {fs : List Value} {ty : FieldType} (F : oF w0 o n L fs) (hR : R = vRm d1 mc1 ms1) (d1' : vD cc pc (.newarray .long) 2 pc1) (hi : i = nI N) (hn : N ≤ 67108864) (hrm : cells + 1 ≤ mc1 ∧ slots + N ≤ ms1) (hf : vFldF own idx ci k0 ty) (hty : ∀ a : Nat, narrow ty (.ref a) = .ref a ∧ fits ty (.ref a) = true) (hk : k0 < n) (d2' : vD cc pc1 (.putfield idx) 3 pc2)
    (kk : ∀ a : Nat, oF w0 o n L (fs.set k0 (.ref a)) → V G B p l e R s m args below meth c nL (cells + 1) (slots + N) Q (vUp (lB w0 L) o (eO ci (fs.set k0 (.ref a)))) pc2 lv st) : V G B p l e R s m args below meth c nL cells slots Q (vUp (lB w0 L) o (eO ci fs)) pc lv (.int i :: .ref o :: st) :=
  v_newJ C hR d1' hi hn hrm (fun a ha _ => cb_putD C hin F ha hf (hty a) hk d2' (kk a))
/-- a field that is no reference to a new cell -/
theorem cb_set (C : vC G B p m meth c cc nL ret s args own) {o n ci idx k0 : Nat} {L : List (Nat × va_E)} {fs : List Value} {v : Value} {ty : FieldType} (F : oF w0 o n L fs) (hf : vFldP own idx ci k0 ty) (hty : narrow ty v = v ∧ fits ty v = true) (hk : k0 < n) (hd : vD cc pc (.putfield idx) 3 pc') (kk : oF w0 o n L (fs.set k0 v) → V G B p l e R s m args below meth c nL cells slots Q (vUp (lB w0 L) o (eO ci (fs.set k0 v))) pc' lv st) : V G B p l e R s m args below meth c nL cells slots Q (vUp (lB w0 L) o (eO ci fs)) pc lv (v :: .ref o :: st) := by
  obtain ⟨F1, F2, F3⟩ := F
  refine v_put C hf hd (fs := fs) vUp_self hty.1 hty.2 (by omega) ?_
  rw [vUp_two]
  exact kk ⟨F1, F2, by simp [F3]⟩
theorem cb_setF (C : vC G B p m meth c cc nL ret s args own) (hin : meth.name = "<init>") {o n ci idx k0 : Nat} {L : List (Nat × va_E)} {fs : List Value} {v : Value} {ty : FieldType} (F : oF w0 o n L fs) (hf : vFldF own idx ci k0 ty) (hty : narrow ty v = v ∧ fits ty v = true) (hk : k0 < n) (hd : vD cc pc (.putfield idx) 3 pc') (kk : oF w0 o n L (fs.set k0 v) → V G B p l e R s m args below meth c nL cells slots Q (vUp (lB w0 L) o (eO ci (fs.set k0 v))) pc' lv st) : V G B p l e R s m args below meth c nL cells slots Q (vUp (lB w0 L) o (eO ci fs)) pc lv (v :: .ref o :: st) := by
  obtain ⟨F1, F2, F3⟩ := F
  refine v_putF C hf hin hd (fs := fs) vUp_self hty.1 hty.2 (by omega) ?_
  rw [vUp_two]
  exact kk ⟨F1, F2, by simp [F3]⟩
end VCon
