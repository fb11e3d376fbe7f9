/-! NAMED CELLS: the cells at ad 0 .. ad (N - 1) hold σ 0 .. σ (N - 1); a picture of the heap by names -/
abbrev nS : Type := Nat → va_E
def nW (ad : Nat → Nat) (N : Nat) (σ : nS) : vW := fun a => ((List.range N).find? (fun k => ad k == a)).map σ
def nI1 (ad : Nat → Nat) (N : Nat) : Prop := ∀ i j, i < N → j < N → ad i = ad j → i = j
theorem nW_find {ad : Nat → Nat} {N : Nat} (I : nI1 ad N) {k : Nat} (hk : k < N) : (List.range N).find? (fun j => ad j == ad k) = some k := by
  cases h : (List.range N).find? (fun j => ad j == ad k) with
  | none =>
    have := List.find?_eq_none.mp h k (List.mem_range.mpr hk)
    simp at this
  | some j =>
    have h1 := List.find?_some h
    have h2 := List.mem_range.mp (List.mem_of_find?_eq_some h)
    have h3 : ad j = ad k := by simpa using h1
    rw [I j k h2 hk h3]
theorem nW_at {ad : Nat → Nat} {N : Nat} {σ : nS} (I : nI1 ad N) {k : Nat} (hk : k < N) : nW ad N σ (ad k) = some (σ k) := by
  unfold nW
  rw [nW_find I hk]
  rfl
theorem nW_up {ad : Nat → Nat} {N : Nat} {σ : nS} (I : nI1 ad N) {k : Nat} (hk : k < N) (e : va_E) : vUp (nW ad N σ) (ad k) e = nW ad N (va_up σ k e) := by
  funext a
  by_cases h : a = ad k
  · subst h
    rw [vUp_self, nW_at I hk]
    simp [va_up]
  · rw [vUp_ne h]
    unfold nW
    cases hf : (List.range N).find? (fun j => ad j == a) with
    | none => rfl
    | some j =>
      have h1 := List.find?_some hf
      have h3 : ad j = a := by simpa using h1
      have : j ≠ k := fun q => h (by rw [← h3, q])
      simp [va_up, this]
/-- chains of changes by names -/
theorem nUp1 {σ τ : nS} {a : Nat} {x : va_E} (h : ∀ k, k ≠ a → τ k = σ k) (ha : τ a = x) : τ = va_up σ a x := by
  funext k
  by_cases q : k = a
  · subst q; simp [va_up, ha]
  · simp [va_up, q, h k q]
theorem nUp2 {σ τ : nS} {a b : Nat} {x y : va_E} (h : ∀ k, k ≠ a → k ≠ b → τ k = σ k) (ha : τ a = x) (hb : τ b = y) : τ = va_up (va_up σ a x) b y :=
  nUp1 (fun k q => by
    by_cases p : k = a
    · subst p; simp [va_up, ha]
    · simp [va_up, p, h k p q]) hb
theorem nUp3 {σ τ : nS} {a b c : Nat} {x y z : va_E} (h : ∀ k, k ≠ a → k ≠ b → k ≠ c → τ k = σ k) (ha : τ a = x) (hb : τ b = y) (hc : τ c = z) : τ = va_up (va_up (va_up σ a x) b y) c z :=
  nUp1 (fun k q => by
    by_cases p : k = a
    · subst p
      by_cases r : k = b
      · subst r; simp [va_up, hb]
      · simp [va_up, r, ha]
    · by_cases r : k = b
      · subst r; simp [va_up, hb]
      · simp [va_up, p, r, h k p r q]) hc
section NRows
variable {G : vG} {B : Nat} {p : Program} {l : Launch} {e : Env} {R : Room} {s : State} {m : MethodId} {args : Array Value} {below : List Frame} {meth : Method} {c : Code} {nL cells slots : Nat} {Q : State → Prop} {cc : ByteArray} {ret : Option FieldType} {own : String} {pc pc' : Nat} {lv : List (Nat × Value)} {st : List Value} {ad : Nat → Nat} {N : Nat} {σ : nS}
theorem n_bald (C : vC G B p m meth c cc nL ret s args own) (I : nI1 ad N) {k n : Nat} {f : Nat → Int32} {i : Int32} (hd : vD cc pc .baload 1 pc') (hk : k < N) (hs : σ k = eB G n f) (j : Nat) (hi : i = nI j) (hj : j < n) (hn : n < 2 ^ 31) (kk : V G B p l e R s m args below meth c nL cells slots Q (nW ad N σ) pc' lv (.int (f j) :: st)) : V G B p l e R s m args below meth c nL cells slots Q (nW ad N σ) pc lv (.int i :: .ref (ad k) :: st) :=
  v_bald C hd ((nW_at I hk).trans (congrArg some hs)) j hi hj hn kk
theorem n_iald (C : vC G B p m meth c cc nL ret s args own) (I : nI1 ad N) {k n : Nat} {f : Nat → Int32} {i : Int32} (hd : vD cc pc .iaload 1 pc') (hk : k < N) (hs : σ k = eI G n f) (j : Nat) (hi : i = nI j) (hj : j < n) (hn : n < 2 ^ 31) (kk : V G B p l e R s m args below meth c nL cells slots Q (nW ad N σ) pc' lv (.int (f j) :: st)) : V G B p l e R s m args below meth c nL cells slots Q (nW ad N σ) pc lv (.int i :: .ref (ad k) :: st) :=
  v_iald C hd ((nW_at I hk).trans (congrArg some hs)) j hi hj hn kk
theorem n_lald (C : vC G B p m meth c cc nL ret s args own) (I : nI1 ad N) {k n : Nat} {f : Nat → Int64} {i : Int32} (hd : vD cc pc .laload 1 pc') (hk : k < N) (hs : σ k = eJ G n f) (j : Nat) (hi : i = nI j) (hj : j < n) (hn : n < 2 ^ 31) (kk : V G B p l e R s m args below meth c nL cells slots Q (nW ad N σ) pc' lv (.long (f j) :: st)) : V G B p l e R s m args below meth c nL cells slots Q (nW ad N σ) pc lv (.int i :: .ref (ad k) :: st) :=
  v_lald C hd ((nW_at I hk).trans (congrArg some hs)) j hi hj hn kk
theorem n_bast (C : vC G B p m meth c cc nL ret s args own) (I : nI1 ad N) {k n : Nat} {f : Nat → Int32} {i x : Int32} (hd : vD cc pc .bastore 1 pc') (hk : k < N) (hs : σ k = eB G n f) (j : Nat) (hi : i = nI j) (hj : j < n) (hn : n < 2 ^ 31) (kk : V G B p l e R s m args below meth c nL cells slots Q (nW ad N (va_up σ k (eB G n (upd f j (vp_nar .byte x))))) pc' lv st) : V G B p l e R s m args below meth c nL cells slots Q (nW ad N σ) pc lv (.int x :: .int i :: .ref (ad k) :: st) :=
  v_bast C hd ((nW_at I hk).trans (congrArg some hs)) j hi hj hn (by rw [nW_up I hk]; exact kk)
theorem n_iast (C : vC G B p m meth c cc nL ret s args own) (I : nI1 ad N) {k n : Nat} {f : Nat → Int32} {i x : Int32} (hd : vD cc pc .iastore 1 pc') (hk : k < N) (hs : σ k = eI G n f) (j : Nat) (hi : i = nI j) (hj : j < n) (hn : n < 2 ^ 31) (kk : V G B p l e R s m args below meth c nL cells slots Q (nW ad N (va_up σ k (eI G n (upd f j x)))) pc' lv st) : V G B p l e R s m args below meth c nL cells slots Q (nW ad N σ) pc lv (.int x :: .int i :: .ref (ad k) :: st) :=
  v_iast C hd ((nW_at I hk).trans (congrArg some hs)) j hi hj hn (by rw [nW_up I hk]; exact kk)
theorem n_last (C : vC G B p m meth c cc nL ret s args own) (I : nI1 ad N) {k n : Nat} {f : Nat → Int64} {i : Int32} {x : Int64} (hd : vD cc pc .lastore 1 pc') (hk : k < N) (hs : σ k = eJ G n f) (j : Nat) (hi : i = nI j) (hj : j < n) (hn : n < 2 ^ 31) (kk : V G B p l e R s m args below meth c nL cells slots Q (nW ad N (va_up σ k (eJ G n (vp_updL f j x)))) pc' lv st) : V G B p l e R s m args below meth c nL cells slots Q (nW ad N σ) pc lv (.long x :: .int i :: .ref (ad k) :: st) :=
  v_last C hd ((nW_at I hk).trans (congrArg some hs)) j hi hj hn (by rw [nW_up I hk]; exact kk)
theorem n_get (C : vC G B p m meth c cc nL ret s args own) (I : nI1 ad N) {k ci index k0 : Nat} {fs : List Value} {v : Value} (hf : vFld own index ci k0) (hd : vD cc pc (.getfield index) 3 pc') (hk : k < N) (hs : σ k = eO ci fs) (hv : fs[k0]? = some v) (kk : V G B p l e R s m args below meth c nL cells slots Q (nW ad N σ) pc' lv (v :: st)) : V G B p l e R s m args below meth c nL cells slots Q (nW ad N σ) pc lv (.ref (ad k) :: st) :=
  v_get C hf hd ((nW_at I hk).trans (congrArg some hs)) hv kk
theorem n_put (C : vC G B p m meth c cc nL ret s args own) (I : nI1 ad N) {k ci index k0 : Nat} {fs fs' : List Value} {v : Value} {ty : FieldType} (hf : vFldP own index ci k0 ty) (hd : vD cc pc (.putfield index) 3 pc') (hk : k < N) (hs : σ k = eO ci fs) (hn : narrow ty v = v) (hfit : fits ty v = true) (hl : k0 < fs.length) (he : fs.set k0 v = fs') (kk : V G B p l e R s m args below meth c nL cells slots Q (nW ad N (va_up σ k (eO ci fs'))) pc' lv st) : V G B p l e R s m args below meth c nL cells slots Q (nW ad N σ) pc lv (v :: .ref (ad k) :: st) :=
  v_put C hf hd ((nW_at I hk).trans (congrArg some hs)) hn hfit hl (by rw [nW_up I hk, he]; exact kk)
end NRows
/-- a contract by names -/
def nOk (G : vG) (B : Nat) (l : Launch) (ad : Nat → Nat) (N : Nat) (y : MethodName) (bytes : ByteArray) (maxL : Nat) (ret : Option FieldType) (d mc ms : Nat) (av : List Value) (σ : nS) (post : Option Value → nS → Prop) : Prop :=
  vOk G B l y bytes maxL ret d mc ms av (nW ad N σ) (fun r w' => ∃ σ' : nS, w' = nW ad N σ' ∧ post r σ')
section NCalls
variable {G : vG} {B : Nat} {p : Program} {l : Launch} {e : Env} {R : Room} {s : State} {m : MethodId} {args : Array Value} {below : List Frame} {meth : Method} {c : Code} {nL cells slots : Nat} {Q : State → Prop} {cc : ByteArray} {ret : Option FieldType} {own : String} {pc pc' : Nat} {lv : List (Nat × Value)} {st : List Value} {ad : Nat → Nat} {N : Nat} {σ : nS}
variable {index n maxL d mc ms d1 mc1 ms1 : Nat} {y : MethodName} {bytes : ByteArray} {rt : Option FieldType}
theorem n_callS (C : vC G B p m meth c cc nL ret s args own) {av rest : List Value} {post : Option Value → nS → Prop} (hm : vLS own index y bytes maxL rt n) (hok : nOk G B l ad N y bytes maxL rt d mc ms av σ post) (hR : R = vRm d1 mc1 ms1) (hdd : d + 1 ≤ d1) (hml : maxL ≤ 60) (hrm : cells + mc ≤ mc1 ∧ slots + ms ≤ ms1) (hn : av.length = n) (hst : st = av.reverse ++ rest) (hroom : (rest.map fun v => v.category).sum ≤ 8) (hd : vD cc pc (.invokestatic index) 3 pc')
    (k : ∀ (r : Option Value) (σ' : nS), post r σ' → V G B p l e R s m args below meth c nL (cells + mc) (slots + ms) Q (nW ad N σ') pc' lv (r.toList ++ rest)) : V G B p l e R s m args below meth c nL cells slots Q (nW ad N σ) pc lv st :=
  v_callS C hm hok hR hdd hml hrm hn hst hroom hd (fun r w' h => by obtain ⟨σ', rfl, hp⟩ := h; exact k r σ' hp)
theorem n_callV (C : vC G B p m meth c cc nL ret s args own) (I : nI1 ad N) {As rest fs : List Value} {b ci : Nat} {post : Option Value → nS → Prop} (hm : vLV own index y bytes maxL rt n ci) (hok : nOk G B l ad N y bytes maxL rt d mc ms (.ref (ad b) :: As) σ post) (hb : b < N) (hs : σ b = eO ci fs) (hR : R = vRm d1 mc1 ms1) (hdd : d + 1 ≤ d1) (hml : maxL ≤ 60) (hrm : cells + mc ≤ mc1 ∧ slots + ms ≤ ms1) (hn : As.length = n) (hst : st = As.reverse ++ .ref (ad b) :: rest) (hroom : (rest.map fun v => v.category).sum ≤ 8) (hd : vD cc pc (.invokevirtual index) 3 pc')
    (k : ∀ (r : Option Value) (σ' : nS), post r σ' → V G B p l e R s m args below meth c nL (cells + mc) (slots + ms) Q (nW ad N σ') pc' lv (r.toList ++ rest)) : V G B p l e R s m args below meth c nL cells slots Q (nW ad N σ) pc lv st :=
  v_callV C hm hok ((nW_at I hb).trans (congrArg some hs)) hR hdd hml hrm hn hst hroom hd (fun r w' h => by obtain ⟨σ', rfl, hp⟩ := h; exact k r σ' hp)
theorem n_callU (C : vC G B p m meth c cc nL ret s args own) (I : nI1 ad N) {x : MethodName} {As rest fs : List Value} {b ci : Nat} {post : Option Value → nS → Prop} (hm : vLU own index x y bytes maxL rt n ci) (hok : nOk G B l ad N y bytes maxL rt d mc ms (.ref (ad b) :: As) σ post) (hb : b < N) (hs : σ b = eO ci fs) (hR : R = vRm d1 mc1 ms1) (hdd : d + 1 ≤ d1) (hml : maxL ≤ 60) (hrm : cells + mc ≤ mc1 ∧ slots + ms ≤ ms1) (hn : As.length = n) (hst : st = As.reverse ++ .ref (ad b) :: rest) (hroom : (rest.map fun v => v.category).sum ≤ 8) (hd : vD cc pc (.invokevirtual index) 3 pc')
    (k : ∀ (r : Option Value) (σ' : nS), post r σ' → V G B p l e R s m args below meth c nL (cells + mc) (slots + ms) Q (nW ad N σ') pc' lv (r.toList ++ rest)) : V G B p l e R s m args below meth c nL cells slots Q (nW ad N σ) pc lv st :=
  v_callU C hm hok ((nW_at I hb).trans (congrArg some hs)) hR hdd hml hrm hn hst hroom hd (fun r w' h => by obtain ⟨σ', rfl, hp⟩ := h; exact k r σ' hp)
theorem n_iret (C : vC G B p m meth c cc nL ret s args own) (hret : ret = some .int) {v : Int32} {post : Option Value → nS → Prop} (hd : vD cc pc .ireturn 1 pc') (hp : post (some (.int v)) σ) : V G B p l e R s m args below meth c nL cells slots (MQ below (vQ G B (fun r w' => ∃ σ' : nS, w' = nW ad N σ' ∧ post r σ')) args s cells slots (fun q => B ≤ q)) (nW ad N σ) pc lv [.int v] := v_iret C hret hd ⟨σ, rfl, hp⟩
theorem n_lret (C : vC G B p m meth c cc nL ret s args own) (hret : ret = some .long) {v : Int64} {post : Option Value → nS → Prop} (hd : vD cc pc .lreturn 1 pc') (hp : post (some (.long v)) σ) : V G B p l e R s m args below meth c nL cells slots (MQ below (vQ G B (fun r w' => ∃ σ' : nS, w' = nW ad N σ' ∧ post r σ')) args s cells slots (fun q => B ≤ q)) (nW ad N σ) pc lv [.long v] := v_lret C hret hd ⟨σ, rfl, hp⟩
theorem n_zret (C : vC G B p m meth c cc nL ret s args own) {ty : FieldType} (hret : ret = some ty) {v : Int32} {post : Option Value → nS → Prop} (hn : narrow ty (.int v) = .int v) (hd : vD cc pc .ireturn 1 pc') (hp : post (some (.int v)) σ) : V G B p l e R s m args below meth c nL cells slots (MQ below (vQ G B (fun r w' => ∃ σ' : nS, w' = nW ad N σ' ∧ post r σ')) args s cells slots (fun q => B ≤ q)) (nW ad N σ) pc lv [.int v] := v_zret C hret hn hd ⟨σ, rfl, hp⟩
theorem n_vret (C : vC G B p m meth c cc nL ret s args own) (hret : ret = none) {post : Option Value → nS → Prop} (hd : vD cc pc .return_ 1 pc') (hp : post none σ) : V G B p l e R s m args below meth c nL cells slots (MQ below (vQ G B (fun r w' => ∃ σ' : nS, w' = nW ad N σ' ∧ post r σ')) args s cells slots (fun q => B ≤ q)) (nW ad N σ) pc lv [] := v_vret C hret hd ⟨σ, rfl, hp⟩
theorem nOk.weak {av : List Value} {post post' : Option Value → nS → Prop} (h : nOk G B l ad N y bytes maxL rt d mc ms av σ post) (hp : ∀ r σ', post r σ' → post' r σ') : nOk G B l ad N y bytes maxL rt d mc ms av σ post' := by
  intro p e h1 h2 h3 s m args below h4 h5 h6 h7
  obtain ⟨n, o, a1, a2, a3, ⟨⟨r, w', b1, ⟨σ', b2, b3⟩, b4⟩, b5⟩, a5⟩ := h p e h1 h2 h3 s m args below h4 h5 h6 h7
  exact ⟨n, o, a1, a2, a3, ⟨⟨r, w', b1, ⟨σ', b2, hp r σ' b3⟩, b4⟩, b5⟩, a5⟩
end NCalls
