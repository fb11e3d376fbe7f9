section VHeap
variable {G : vG} {B : Nat} {p : Program} {l : Launch} {e : Env} {R : Room} {s : State} {m : MethodId} {args : Array Value} {below : List Frame} {meth : Method} {c : Code} {nL cells slots : Nat} {Q : State → Prop} {w : vW} {cc : ByteArray} {ret : Option FieldType} {own : String} {pc pc' : Nat} {lv : List (Nat × Value)} {st : List Value}
theorem v_bald (C : vC G B p m meth c cc nL ret s args own) {a n : Nat} {f : Nat → Int32} {i : Int32} (hd : vD cc pc .baload 1 pc') (hw : w a = some (eB G n f)) (j : Nat) (hi : i = nI j) (hj : j < n) (hn : n < 2 ^ 31) (k : V G B p l e R s m args below meth c nL cells slots Q w pc' lv (.int (f j) :: st)) : V G B p l e R s m args below meth c nL cells slots Q w pc lv (.int i :: .ref a :: st) := by
  subst hi
  intro H locs ls h1 h2 h3
  have k := k H locs ls h1 h2 h3
  rw [hd.2] at k
  obtain ⟨ws, hP, hD, hH⟩ := h1
  obtain ⟨q0, hq⟩ := hH _ _ hw
  refine va_bald C.1.1 C.1.2.1 C.2.1.1 hP q0 0 hq rfl (vp_in_nI hj hn) hd.1 ?_
  rw [nI_clamp (Nat.lt_trans hj hn)]
  exact k
theorem v_iald (C : vC G B p m meth c cc nL ret s args own) {a n : Nat} {f : Nat → Int32} {i : Int32} (hd : vD cc pc .iaload 1 pc') (hw : w a = some (eI G n f)) (j : Nat) (hi : i = nI j) (hj : j < n) (hn : n < 2 ^ 31) (k : V G B p l e R s m args below meth c nL cells slots Q w pc' lv (.int (f j) :: st)) : V G B p l e R s m args below meth c nL cells slots Q w pc lv (.int i :: .ref a :: st) := by
  subst hi
  intro H locs ls h1 h2 h3
  have k := k H locs ls h1 h2 h3
  rw [hd.2] at k
  obtain ⟨ws, hP, hD, hH⟩ := h1
  obtain ⟨q0, hq⟩ := hH _ _ hw
  refine va_iald C.1.1 C.1.2.1 C.2.1.1 hP q0 1 hq rfl (vp_in_nI hj hn) hd.1 ?_
  rw [nI_clamp (Nat.lt_trans hj hn)]
  exact k
theorem v_lald (C : vC G B p m meth c cc nL ret s args own) {a n : Nat} {f : Nat → Int64} {i : Int32} (hd : vD cc pc .laload 1 pc') (hw : w a = some (eJ G n f)) (j : Nat) (hi : i = nI j) (hj : j < n) (hn : n < 2 ^ 31) (k : V G B p l e R s m args below meth c nL cells slots Q w pc' lv (.long (f j) :: st)) : V G B p l e R s m args below meth c nL cells slots Q w pc lv (.int i :: .ref a :: st) := by
  subst hi
  intro H locs ls h1 h2 h3
  have k := k H locs ls h1 h2 h3
  rw [hd.2] at k
  obtain ⟨ws, hP, hD, hH⟩ := h1
  obtain ⟨q0, hq⟩ := hH _ _ hw
  refine va_lald C.1.1 C.1.2.1 C.2.1.1 hP q0 2 hq rfl (vp_in_nI hj hn) hd.1 ?_
  rw [nI_clamp (Nat.lt_trans hj hn)]
  exact k
theorem v_bast (C : vC G B p m meth c cc nL ret s args own) {a n : Nat} {f : Nat → Int32} {i : Int32} {x : Int32} (hd : vD cc pc .bastore 1 pc') (hw : w a = some (eB G n f)) (j : Nat) (hi : i = nI j) (hj : j < n) (hn : n < 2 ^ 31) (k : V G B p l e R s m args below meth c nL cells slots Q (vUp w a (eB G n (upd f j (vp_nar .byte x)))) pc' lv st) : V G B p l e R s m args below meth c nL cells slots Q w pc lv (.int x :: .int i :: .ref a :: st) := by
  subst hi
  intro H locs ls h1 h2 h3
  rw [hd.2] at k
  obtain ⟨ws, hP, hD, hH⟩ := h1
  obtain ⟨q0, hq⟩ := hH _ _ hw
  refine va_bast C.1.1 C.1.2.1 C.2.1.1 hP hD h2 q0 0 hq rfl (vp_in_nI hj hn) hd.1 (fun H1 locs1 hP1 hD1 hS1 => ?_)
  rw [nI_clamp (Nat.lt_trans hj hn)] at hP1 hD1
  exact k H1 locs1 ls ⟨_, hP1, hD1, hH.set hD hq⟩ hS1 h3
theorem v_iast (C : vC G B p m meth c cc nL ret s args own) {a n : Nat} {f : Nat → Int32} {i : Int32} {x : Int32} (hd : vD cc pc .iastore 1 pc') (hw : w a = some (eI G n f)) (j : Nat) (hi : i = nI j) (hj : j < n) (hn : n < 2 ^ 31) (k : V G B p l e R s m args below meth c nL cells slots Q (vUp w a (eI G n (upd f j x))) pc' lv st) : V G B p l e R s m args below meth c nL cells slots Q w pc lv (.int x :: .int i :: .ref a :: st) := by
  subst hi
  intro H locs ls h1 h2 h3
  rw [hd.2] at k
  obtain ⟨ws, hP, hD, hH⟩ := h1
  obtain ⟨q0, hq⟩ := hH _ _ hw
  refine va_iast C.1.1 C.1.2.1 C.2.1.1 hP hD h2 q0 1 hq rfl (vp_in_nI hj hn) hd.1 (fun H1 locs1 hP1 hD1 hS1 => ?_)
  rw [nI_clamp (Nat.lt_trans hj hn)] at hP1 hD1
  exact k H1 locs1 ls ⟨_, hP1, hD1, hH.set hD hq⟩ hS1 h3
theorem v_last (C : vC G B p m meth c cc nL ret s args own) {a n : Nat} {f : Nat → Int64} {i : Int32} {x : Int64} (hd : vD cc pc .lastore 1 pc') (hw : w a = some (eJ G n f)) (j : Nat) (hi : i = nI j) (hj : j < n) (hn : n < 2 ^ 31) (k : V G B p l e R s m args below meth c nL cells slots Q (vUp w a (eJ G n (vp_updL f j x))) pc' lv st) : V G B p l e R s m args below meth c nL cells slots Q w pc lv (.long x :: .int i :: .ref a :: st) := by
  subst hi
  intro H locs ls h1 h2 h3
  rw [hd.2] at k
  obtain ⟨ws, hP, hD, hH⟩ := h1
  obtain ⟨q0, hq⟩ := hH _ _ hw
  refine va_last C.1.1 C.1.2.1 C.2.1.1 hP hD h2 q0 2 hq rfl (vp_in_nI hj hn) hd.1 (fun H1 locs1 hP1 hD1 hS1 => ?_)
  rw [nI_clamp (Nat.lt_trans hj hn)] at hP1 hD1
  exact k H1 locs1 ls ⟨_, hP1, hD1, hH.set hD hq⟩ hS1 h3
theorem v_alenB (C : vC G B p m meth c cc nL ret s args own) {a n : Nat} {f : Nat → Int32} (hd : vD cc pc .arraylength 1 pc') (hw : w a = some (eB G n f)) (k : V G B p l e R s m args below meth c nL cells slots Q w pc' lv (.int (nI n) :: st)) : V G B p l e R s m args below meth c nL cells slots Q w pc lv (.ref a :: st) := by
  intro H locs ls h1 h2 h3
  have k := k H locs ls h1 h2 h3
  rw [hd.2] at k
  obtain ⟨ws, hP, hD, hH⟩ := h1
  obtain ⟨q0, hq⟩ := hH _ _ hw
  exact va_alen C.1.1 C.1.2.1 C.2.1.1 hP q0 0 hq rfl rfl hd.1 k
theorem v_alenI (C : vC G B p m meth c cc nL ret s args own) {a n : Nat} {f : Nat → Int32} (hd : vD cc pc .arraylength 1 pc') (hw : w a = some (eI G n f)) (k : V G B p l e R s m args below meth c nL cells slots Q w pc' lv (.int (nI n) :: st)) : V G B p l e R s m args below meth c nL cells slots Q w pc lv (.ref a :: st) := by
  intro H locs ls h1 h2 h3
  have k := k H locs ls h1 h2 h3
  rw [hd.2] at k
  obtain ⟨ws, hP, hD, hH⟩ := h1
  obtain ⟨q0, hq⟩ := hH _ _ hw
  exact va_alen C.1.1 C.1.2.1 C.2.1.1 hP q0 1 hq rfl rfl hd.1 k
theorem v_alenJ (C : vC G B p m meth c cc nL ret s args own) {a n : Nat} {f : Nat → Int64} (hd : vD cc pc .arraylength 1 pc') (hw : w a = some (eJ G n f)) (k : V G B p l e R s m args below meth c nL cells slots Q w pc' lv (.int (nI n) :: st)) : V G B p l e R s m args below meth c nL cells slots Q w pc lv (.ref a :: st) := by
  intro H locs ls h1 h2 h3
  have k := k H locs ls h1 h2 h3
  rw [hd.2] at k
  obtain ⟨ws, hP, hD, hH⟩ := h1
  obtain ⟨q0, hq⟩ := hH _ _ hw
  exact va_alen C.1.1 C.1.2.1 C.2.1.1 hP q0 2 hq rfl rfl hd.1 k
theorem v_get (C : vC G B p m meth c cc nL ret s args own) {a ci index k0 : Nat} {fs : List Value} {v : Value} (hf : vFld own index ci k0) (hd : vD cc pc (.getfield index) 3 pc') (hw : w a = some (eO ci fs)) (hv : fs[k0]? = some v) (k : V G B p l e R s m args below meth c nL cells slots Q w pc' lv (v :: st)) : V G B p l e R s m args below meth c nL cells slots Q w pc lv (.ref a :: st) := by
  intro H locs ls h1 h2 h3
  have k := k H locs ls h1 h2 h3
  rw [hd.2] at k
  obtain ⟨ws, hP, hD, hH⟩ := h1
  obtain ⟨q0, hq⟩ := hH _ _ hw
  obtain ⟨Cn, T, N, ref, host, hc, hk, hin, hlink, hsame⟩ := hf
  have hS : ∀ x, s.fieldFound? (T k0).1 (T k0).2.1 (T k0).2.2.1 = some x → s.fieldFound? ref (T k0).2.1 (T k0).2.2.1 = some x := by
    rcases hsame with h | h
    · intro x hx; rw [h]; exact hx
    · exact fun x hx => u_same (C.1.2.2.2.2 _ h) x hx
  rcases hlink with h | h
  · exact va_get C.1.1 C.1.2.1 C.1.2.2.2.2 hin C.1.2.2.2.1 C.2.1.1 hP q0 hq hc k0 hk (C.1.2.2.2.2 _ h) hS hv hd.1 k
  · exact va_getN C.1.1 C.1.2.1 C.1.2.2.2.2 hin C.1.2.2.2.1 C.2.1.1 hP q0 hq hc k0 hk (va_Nw.use rfl (C.2.1.2.2.1 _ h)) hS hv hd.1 k
theorem v_put (C : vC G B p m meth c cc nL ret s args own) {a ci index k0 : Nat} {fs : List Value} {v : Value} {ty : FieldType} (hf : vFldP own index ci k0 ty) (hd : vD cc pc (.putfield index) 3 pc') (hw : w a = some (eO ci fs)) (hn : narrow ty v = v) (hfit : fits ty v = true) (hl : k0 < fs.length) (k : V G B p l e R s m args below meth c nL cells slots Q (vUp w a (eO ci (fs.set k0 v))) pc' lv st) : V G B p l e R s m args below meth c nL cells slots Q w pc lv (v :: .ref a :: st) := by
  intro H locs ls h1 h2 h3
  rw [hd.2] at k
  obtain ⟨ws, hP, hD, hH⟩ := h1
  obtain ⟨q0, hq⟩ := hH _ _ hw
  obtain ⟨Cn, T, N, ref, host, ty0, hc, hk, hin, hlink, hsame, hty, hnm, hfin, hpd⟩ := hf
  have hS : ∀ x, s.fieldFound? (T k0).1 (T k0).2.1 (T k0).2.2.1 = some x → s.fieldFound? ref (T k0).2.1 (T k0).2.2.1 = some x := by
    rcases hsame with h | h
    · intro x hx; rw [h]; exact hx
    · exact fun x hx => u_same (C.1.2.2.2.2 _ h) x hx
  rcases hlink with h | h
  · exact va_put C.1.1 C.1.2.1 C.1.2.2.2.2 hin ty0 hty hnm C.1.2.2.2.1 C.2.1.1 hP hD h2 q0 hq hc k0 hk (C.1.2.2.2.2 _ h) hS hfin hpd hn hfit hl hd.1 (fun H1 locs1 hP1 hD1 hS1 => k H1 locs1 ls ⟨_, hP1, hD1, hH.set hD hq⟩ hS1 h3)
  · exact va_putN C.1.1 C.1.2.1 C.1.2.2.2.2 hin ty0 hty hnm C.1.2.2.2.1 C.2.1.1 hP hD h2 q0 hq hc k0 hk (va_Nw.use rfl (C.2.1.2.2.1 _ h)) hS hfin hpd hn hfit hl hd.1 (fun H1 locs1 hP1 hD1 hS1 => k H1 locs1 ls ⟨_, hP1, hD1, hH.set hD hq⟩ hS1 h3)
theorem v_topi {x : Int32} (k : ∀ y : Int32, y = x → V G B p l e R s m args below meth c nL cells slots Q w pc lv (.int y :: st)) : V G B p l e R s m args below meth c nL cells slots Q w pc lv (.int x :: st) := k x rfl
theorem v_topl {x : Int64} (k : ∀ y : Int64, y = x → V G B p l e R s m args below meth c nL cells slots Q w pc lv (.long y :: st)) : V G B p l e R s m args below meth c nL cells slots Q w pc lv (.long x :: st) := k x rfl
theorem v_eq {lv' : List (Nat × Value)} {st' : List Value} {w' : vW} (h1 : w = w') (h2 : lv = lv') (h3 : st = st') (k : V G B p l e R s m args below meth c nL cells slots Q w' pc lv' st') : V G B p l e R s m args below meth c nL cells slots Q w pc lv st := by subst h1; subst h2; subst h3; exact k
theorem v_sub {w' : vW} (hw : ∀ a e, w' a = some e → w a = some e) (k : V G B p l e R s m args below meth c nL cells slots Q w' pc lv st) : V G B p l e R s m args below meth c nL cells slots Q w pc lv st := fun H locs ls h1 h2 h3 => k H locs ls (h1.sub hw) h2 h3
theorem v_pick {lv' : List (Nat × Value)} (ks : List Nat) (hl : lv_pick lv ks = lv') (k : V G B p l e R s m args below meth c nL cells slots Q w pc lv' st) : V G B p l e R s m args below meth c nL cells slots Q w pc lv st := fun H locs ls h1 h2 h3 => k H locs ls h1 h2 (lv_sub h3 ks hl)
theorem v_wide {k n : Nat} (h1 : cells ≤ k) (h2 : slots ≤ n) (kk : V G B p l e R s m args below meth c nL k n Q w pc lv st) : V G B p l e R s m args below meth c nL cells slots Q w pc lv st := fun H locs ls a1 a2 a3 => W.widen h1 h2 (kk H locs ls a1 a2 a3)
theorem v_iret (C : vC G B p m meth c cc nL ret s args own) (hret : ret = (some .int)) {v : Int32} {post : Option Value → vW → Prop} (hd : vD cc pc .ireturn 1 pc') (hp : post (some (.int v)) w) : V G B p l e R s m args below meth c nL cells slots (MQ below (vQ G B post) args s cells slots (fun q => B ≤ q)) w pc lv [.int v] := fun H locs ls h1 h2 h3 => W.iret C.1.1 C.1.2.1 (C.2.2.1.trans hret) (fun t ht hW => ⟨⟨_, w, rfl, hp, by rw [ht]; exact h1⟩, h2.F ht⟩) h2.2.2 hd.1 C.2.2.2
theorem v_lret (C : vC G B p m meth c cc nL ret s args own) (hret : ret = (some .long)) {v : Int64} {post : Option Value → vW → Prop} (hd : vD cc pc .lreturn 1 pc') (hp : post (some (.long v)) w) : V G B p l e R s m args below meth c nL cells slots (MQ below (vQ G B post) args s cells slots (fun q => B ≤ q)) w pc lv [.long v] := fun H locs ls h1 h2 h3 => W.lret C.1.1 C.1.2.1 (C.2.2.1.trans hret) (fun t ht hW => ⟨⟨_, w, rfl, hp, by rw [ht]; exact h1⟩, h2.F ht⟩) h2.2.2 hd.1 C.2.2.2
theorem v_zret (C : vC G B p m meth c cc nL ret s args own) {ty : FieldType} (hret : ret = some ty) {v : Int32} {post : Option Value → vW → Prop} (hn : narrow ty (.int v) = .int v) (hd : vD cc pc .ireturn 1 pc') (hp : post (some (.int v)) w) : V G B p l e R s m args below meth c nL cells slots (MQ below (vQ G B post) args s cells slots (fun q => B ≤ q)) w pc lv [.int v] := fun H locs ls h1 h2 h3 => W.zret C.1.1 C.1.2.1 (C.2.2.1.trans hret) hn (fun t ht hW => ⟨⟨_, w, rfl, hp, by rw [ht]; exact h1⟩, h2.F ht⟩) h2.2.2 hd.1 C.2.2.2
theorem v_aret (C : vC G B p m meth c cc nL ret s args own) {ty : FieldType} (hret : ret = some ty) (hty : (∃ n, ty = .object n) ∨ ∃ t, ty = .array t) {a : Nat} {post : Option Value → vW → Prop} (hd : vD cc pc .areturn 1 pc') (hp : post (some (.ref a)) w) : V G B p l e R s m args below meth c nL cells slots (MQ below (vQ G B post) args s cells slots (fun q => B ≤ q)) w pc lv [.ref a] := fun H locs ls h1 h2 h3 => W.aret C.1.1 C.1.2.1 (C.2.2.1.trans hret) hty (Or.inr ⟨a, rfl⟩) (fun t ht hW => ⟨⟨_, w, rfl, hp, by rw [ht]; exact h1⟩, h2.F ht⟩) h2.2.2 hd.1 C.2.2.2
theorem v_vret (C : vC G B p m meth c cc nL ret s args own) (hret : ret = none) {post : Option Value → vW → Prop} (hd : vD cc pc .return_ 1 pc') (hp : post none w) : V G B p l e R s m args below meth c nL cells slots (MQ below (vQ G B post) args s cells slots (fun q => B ≤ q)) w pc lv [] := fun H locs ls h1 h2 h3 => W.vret C.1.1 C.1.2.1 (C.2.2.1.trans hret) (fun t ht hW => ⟨⟨_, w, rfl, hp, by rw [ht]; exact h1⟩, h2.F ht⟩) h2.2.2 hd.1 C.2.2.2
theorem vOk.of {y : MethodName} {bytes : ByteArray} {maxL d mc ms : Nat} {av : List Value} {post : Option Value → vW → Prop} (hy : plainName y.cls = true) (hlen : (lg_sl av).length ≤ maxL)
    (h : ∀ (p : Program) (e : Env) (s : State) (m : MethodId) (args : Array Value) (below : List Frame) (meth : Method) (c : Code), vC G B p m meth c bytes maxL ret s args y.cls → V G B p l e (vRm d mc ms) s m args below meth c maxL 0 0 (MQ below (vQ G B post) args s mc ms (fun q => B ≤ q)) w 0 (lv_args 0 av) []) : vOk G B l y bytes maxL ret d mc ms av w post := by
  refine Met.ofW (cc := bytes) (maxL := maxL) (ret := ret) hy rfl ?_
  intro p e s m args below meth c s₁ Bd hml hv
  obtain ⟨rfl, hE, hW⟩ := hv
  have hts := atoms_spec (ws := Cond.code y bytes maxL ret :: vGW) Bd.pre
  have hown : s.vm.findClass y.cls = some m.cls := findClass_of_methodNamed Bd.named
  have C : vC G B p m meth c bytes maxL ret s av.toArray y.cls := ⟨⟨Bd.exec, Bd.bytes, hml, hown, fun w h => hts w (List.mem_cons_of_mem _ h)⟩, hE, Bd.returns, Bd.notSynchronized⟩
  rw [lg_entry_eq]
  exact h p e s m _ below meth c C s.heap [] _ hW va_S.rf (lv_entry av hlen)
theorem v_cont {mc ms : Nat} {st0 rest : List Value} {a : Array Value} {post : Option Value → vW → Prop} (hr : ∀ (H : Heap) (locs : List Loc) (ls : Array Slot), vHolds G B w H → va_S (fun q => B ≤ q) s.heap H locs → lv_has ls nL lv → va_Run p l e R s m args below meth c H locs cells slots mc ms (F0 m pc ls st0) rest (vQ G B post a) (fun q => B ≤ q))
    (kk : ∀ (r : Option Value) (w' : vW), post r w' → V G B p l e R s m args below meth c nL (cells + mc) (slots + ms) Q w' (pc + 3) lv (r.toList ++ rest)) : V G B p l e R s m args below meth c nL cells slots Q w pc lv st0 := by
  intro H locs ls h1 h2 h3 T hT X
  obtain ⟨v, st₀, t, T', L, h0, X', hL, e1, e2, ⟨⟨r, w', hv, hp, hb⟩, hz, hk⟩, stp⟩ := hr H locs ls h1 h2 h3 T hT X
  cases hv
  rw [h0] at hz hk
  obtain ⟨t2, a1, b1⟩ := kk v w' hp T'.heap (locs ++ L) ls (by rw [e1]; exact hb) ⟨Nat.le_trans h2.1 (by rw [e1]; exact hz), fun q q1 q2 => by rw [e1, hk q (Nat.lt_of_lt_of_le q1 h2.1) q2]; exact h2.2.1 q q1 q2, fun q hq => by
      rcases List.mem_append.mp hq with h | h
      · exact h2.2.2 q h
      · exact hL q h⟩ h3 T' rfl X'
  exact ⟨t2, stp t2 a1, b1⟩
theorem vBlind {av : List Value} : FrameBlind (va_Pc av (fun U => vEnv G B U ∧ vHolds G B w U.heap)) := fun a U g mk q => ⟨q.1, q.2.1.blind, q.2.2⟩
theorem vPre {H : Heap} {locs : List Loc} {av : List Value} (hE : vEnv G B s) (h1 : vHolds G B w H) (h2 : va_S (fun q => B ≤ q) s.heap H locs) : PreS s H (va_Pc av (fun U => vEnv G B U ∧ vHolds G B w U.heap)) av := ⟨vBlind, fun U hU hW => ⟨rfl, hE.carry h2 hU hW, by rw [hU]; exact h1⟩⟩
theorem vPreV {H : Heap} {locs : List Loc} {b ci : Nat} {fs As : List Value} {q : vw_C} (hE : vEnv G B s) (h1 : vHolds G B w H) (h2 : va_S (fun q => B ≤ q) s.heap H locs) (hw : w b = some (eO ci fs)) (hc : vCl[ci]? = some q) : PreV s H q.1 b (va_Pc (.ref b :: As) (fun U => vEnv G B U ∧ vHolds G B w U.heap)) As := by
  refine ⟨vBlind, ?_, fun U hU hW => ⟨rfl, hE.carry h2 hU hW, by rw [hU]; exact h1⟩⟩
  obtain ⟨ws, hP, hD, hH⟩ := h1
  obtain ⟨q0, hq⟩ := hH _ _ hw
  exact va_recv hE.1 hP hc hq
theorem vGood {y : MethodName} {bytes : ByteArray} {maxL : Nat} {rt : Option FieldType} (h : Cond.code y bytes maxL rt ∈ vGW) : GoodIn vGW (Cond.code y bytes maxL rt :: vGW) := by
  intro w hw
  rcases List.mem_cons.mp hw with rfl | h2
  · exact ⟨h, vGW_ok _ h⟩
  · exact ⟨h2, vGW_ok _ h2⟩
theorem vRm_fit {d d1 mc ms mc1 ms1 maxL : Nat} (h : d + 1 ≤ d1) (hl : maxL ≤ 60) : (vRm d mc ms).frames + 1 ≤ (vRm d1 mc1 ms1).frames ∧ 8 + (maxL + 11) + (vRm d mc ms).locals ≤ (vRm d1 mc1 ms1).locals := by
  refine ⟨h, ?_⟩
  show 8 + (maxL + 11) + 100 * d ≤ 100 * d1
  omega
theorem v_callS (C : vC G B p m meth c cc nL ret s args own) {index n maxL d mc ms d1 mc1 ms1 : Nat} {y : MethodName} {bytes : ByteArray} {rt : Option FieldType} {av rest : List Value} {post : Option Value → vW → Prop} (hm : vLS own index y bytes maxL rt n) (hok : vOk G B l y bytes maxL rt d mc ms av w post) (hR : R = vRm d1 mc1 ms1) (hdd : d + 1 ≤ d1) (hml : maxL ≤ 60) (hrm : cells + mc ≤ mc1 ∧ slots + ms ≤ ms1) (hn : av.length = n) (hst : st = av.reverse ++ rest) (hroom : (rest.map fun v => v.category).sum ≤ 8) (hd : vD cc pc (.invokestatic index) 3 pc') (k : ∀ (r : Option Value) (w' : vW), post r w' → V G B p l e R s m args below meth c nL (cells + mc) (slots + ms) Q w' pc' lv (r.toList ++ rest)) : V G B p l e R s m args below meth c nL cells slots Q w pc lv st := by
  subst hst; subst hR
  obtain ⟨hlink, hstat, hini, hcode, hcls, hpar⟩ := hm
  rw [hd.2] at k
  refine v_cont (mc := mc) (ms := ms) (rest := rest) (post := post) (a := av.toArray) (fun H locs ls h1 h2 h3 => ?_) k
  rcases hlink with h | ⟨host, h⟩
  · exact va_runS C.1 hok ⟨callB_of n C.1.2.2.2.2 (vGood hcode) rfl rfl rfl (C.1.2.2.2.2 _ hini) (C.1.2.2.2.2 _ h) ⟨hcls.1, hcls.2, hpar⟩ (vRm_fit hdd hml), C.1.2.2.2.2 _ hstat⟩ (vPre C.2.1 h1 h2) rfl hn h3.1 rfl (lv_room hroom) hd.1 hrm
  · exact va_runSN C.1 hok ⟨va_cnB n C.1.2.2.2.2 (vGood hcode) rfl rfl rfl (C.2.1.2.2.1 _ h) (C.1.2.2.2.2 _ hini) ⟨hcls.1, hcls.2, hpar⟩ (vRm_fit hdd hml), C.1.2.2.2.2 _ hstat, trivial⟩ (vPre C.2.1 h1 h2) rfl hn h3.1 rfl (lv_room hroom) hd.1 hrm
theorem v_callV (C : vC G B p m meth c cc nL ret s args own) {index n maxL d mc ms d1 mc1 ms1 : Nat} {y : MethodName} {bytes : ByteArray} {rt : Option FieldType} {As rest fs : List Value} {b ci : Nat} {post : Option Value → vW → Prop} (hm : vLV own index y bytes maxL rt n ci) (hok : vOk G B l y bytes maxL rt d mc ms (.ref b :: As) w post) (hw : w b = some (eO ci fs)) (hR : R = vRm d1 mc1 ms1) (hdd : d + 1 ≤ d1) (hml : maxL ≤ 60) (hrm : cells + mc ≤ mc1 ∧ slots + ms ≤ ms1) (hn : As.length = n) (hst : st = As.reverse ++ .ref b :: rest) (hroom : (rest.map fun v => v.category).sum ≤ 8) (hd : vD cc pc (.invokevirtual index) 3 pc') (k : ∀ (r : Option Value) (w' : vW), post r w' → V G B p l e R s m args below meth c nL (cells + mc) (slots + ms) Q w' pc' lv (r.toList ++ rest)) : V G B p l e R s m args below meth c nL cells slots Q w pc lv st := by
  subst hst; subst hR
  obtain ⟨⟨q, hc, hq⟩, hlink, hinst, hsel, hini, hcode, hcls, hpar⟩ := hm
  rw [hd.2] at k
  refine v_cont (mc := mc) (ms := ms) (rest := rest) (post := post) (a := (Value.ref b :: As).toArray) (fun H locs ls h1 h2 h3 => ?_) k
  have hpre := vPreV (As := As) C.2.1 h1 h2 hw hc
  rw [hq] at hpre
  rcases hlink with h | ⟨host, h⟩
  · exact va_runV C.1 hok ⟨callB_of n C.1.2.2.2.2 (vGood hcode) rfl rfl rfl (C.1.2.2.2.2 _ hini) (C.1.2.2.2.2 _ h) ⟨hcls.1, hcls.2, hpar⟩ (vRm_fit hdd hml), C.1.2.2.2.2 _ hinst, C.1.2.2.2.2 _ hsel⟩ hpre rfl hn h3.1 rfl (lv_room hroom) hd.1 hrm
  · exact va_runVN C.1 hok ⟨va_cnB n C.1.2.2.2.2 (vGood hcode) rfl rfl rfl (C.2.1.2.2.1 _ h) (C.1.2.2.2.2 _ hini) ⟨hcls.1, hcls.2, hpar⟩ (vRm_fit hdd hml), C.1.2.2.2.2 _ hinst, C.1.2.2.2.2 _ hsel⟩ hpre rfl hn h3.1 rfl (lv_room hroom) hd.1 hrm
theorem v_callI (C : vC G B p m meth c cc nL ret s args own) {index n maxL d mc ms d1 mc1 ms1 : Nat} {y : MethodName} {bytes : ByteArray} {rt : Option FieldType} {As rest : List Value} {b : Nat} {post : Option Value → vW → Prop} (hm : vLI own index y bytes maxL n) (hok : vOk G B l y bytes maxL none d mc ms (.ref b :: As) w post) (hR : R = vRm d1 mc1 ms1) (hdd : d + 1 ≤ d1) (hml : maxL ≤ 60) (hrm : cells + mc ≤ mc1 ∧ slots + ms ≤ ms1) (hn : As.length = n) (hst : st = As.reverse ++ .ref b :: rest) (hroom : (rest.map fun v => v.category).sum ≤ 8) (hd : vD cc pc (.invokespecial index) 3 pc') (k : ∀ (r : Option Value) (w' : vW), post r w' → V G B p l e R s m args below meth c nL (cells + mc) (slots + ms) Q w' pc' lv (r.toList ++ rest)) : V G B p l e R s m args below meth c nL cells slots Q w pc lv st := by
  subst hst; subst hR
  obtain ⟨hlink, hinst, hini, hcode, hname, hcls, hpar⟩ := hm
  rw [hd.2] at k
  refine v_cont (mc := mc) (ms := ms) (rest := rest) (post := post) (a := (Value.ref b :: As).toArray) (fun H locs ls h1 h2 h3 => ?_) k
  rcases hlink with h | ⟨host, h⟩
  · exact va_runI C.1 hok ⟨callB_of n C.1.2.2.2.2 (vGood hcode) rfl rfl rfl (C.1.2.2.2.2 _ hini) (C.1.2.2.2.2 _ h) ⟨hcls.1, hcls.2, hpar⟩ (vRm_fit hdd hml), hname, C.1.2.2.2.2 _ hinst⟩ (vPre C.2.1 h1 h2) rfl hn h3.1 rfl (lv_room hroom) hd.1 hrm
  · exact va_runIN C.1 hok ⟨va_cnB n C.1.2.2.2.2 (vGood hcode) rfl rfl rfl (C.2.1.2.2.1 _ h) (C.1.2.2.2.2 _ hini) ⟨hcls.1, hcls.2, hpar⟩ (vRm_fit hdd hml), hname, C.1.2.2.2.2 _ hinst⟩ (vPre C.2.1 h1 h2) rfl hn h3.1 rfl (lv_room hroom) hd.1 hrm
theorem v_callU (C : vC G B p m meth c cc nL ret s args own) {index n maxL d mc ms d1 mc1 ms1 : Nat} {y : MethodName} {bytes : ByteArray} {rt : Option FieldType} {x : MethodName} {As rest fs : List Value} {b ci : Nat} {post : Option Value → vW → Prop} (hm : vLU own index x y bytes maxL rt n ci) (hok : vOk G B l y bytes maxL rt d mc ms (.ref b :: As) w post) (hw : w b = some (eO ci fs)) (hR : R = vRm d1 mc1 ms1) (hdd : d + 1 ≤ d1) (hml : maxL ≤ 60) (hrm : cells + mc ≤ mc1 ∧ slots + ms ≤ ms1) (hn : As.length = n) (hst : st = As.reverse ++ .ref b :: rest) (hroom : (rest.map fun v => v.category).sum ≤ 8) (hd : vD cc pc (.invokevirtual index) 3 pc') (k : ∀ (r : Option Value) (w' : vW), post r w' → V G B p l e R s m args below meth c nL (cells + mc) (slots + ms) Q w' pc' lv (r.toList ++ rest)) : V G B p l e R s m args below meth c nL cells slots Q w pc lv st := by
  subst hst; subst hR
  obtain ⟨q, owner, hc, hlink, hsame, hdecl, hsel, hinst, hini, hcode, hcls, hpar⟩ := hm
  rw [hd.2] at k
  refine v_cont (mc := mc) (ms := ms) (rest := rest) (post := post) (a := (Value.ref b :: As).toArray) (fun H locs ls h1 h2 h3 => ?_) k
  have hpre := vPreV (As := As) C.2.1 h1 h2 hw hc
  have hdc : va_Decl s ⟨owner, x.name, x.desc⟩ := by
    rcases hdecl with h | ⟨b0, m0, r0, h, h0⟩
    · exact va_Decl.abs (C.2.1.2.2.1 _ h)
    · exact va_Decl.of (C.1.2.2.2.2 _ h) (C.1.2.2.2.2 _ h0)
  have hG := vGood hcode
  refine va_runU C.1 hok ⟨⟨rfl, rfl, (vRm_fit hdd hml).1, (vRm_fit hdd hml).2, pay_in C.1.2.2.2.2 hG, List.mem_cons_self⟩, C.1.2.2.2.2 _ hcode, C.1.2.2.2.2 _ hini, hcls, fun sig h => ?_, C.1.2.2.2.2 _ hlink, C.1.2.2.2.2 _ hsame, hdc, C.1.2.2.2.2 _ hsel, C.1.2.2.2.2 _ hinst⟩ hpre rfl hn h3.1 rfl (lv_room hroom) hd.1 hrm
  have hp2 : (parseMethodDescriptor x.desc).map (fun d => d.parameters.length) = some n := hpar
  rw [h] at hp2
  exact (Option.some.inj hp2).symm
theorem v_copyB (C : vC G B p m meth c cc nL ret s args own) {index a0 a n0 n1 d1 mc1 ms1 : Nat} {f g : Nat → Int32} {i1 i2 i3 : Int32} (hl : Cond.methodLink own index arraycopyName ∈ vGW) (hd : vD cc pc (.invokestatic index) 3 pc') (hs : w a0 = some (eB G n0 f)) (ht : w a = some (eB G n1 g)) (sp dp n : Nat) (e1 : i1 = nI sp) (e2 : i2 = nI dp) (e3 : i3 = nI n) (h4 : sp + n ≤ n0) (h5 : dp + n ≤ n1) (hn0 : n0 < 2 ^ 31) (hn1 : n1 < 2 ^ 31) (hfit : ∀ i, i < n → fits .byte (.int (f (sp + i))) = true) (hR : R = vRm d1 mc1 ms1) (hd1 : 1 ≤ d1) (hroom : (st.map fun v => v.category).sum ≤ 8) (k : V G B p l e R s m args below meth c nL cells slots Q (vUp w a (eB G n1 (va_cpy f g sp dp n))) pc' lv st) : V G B p l e R s m args below meth c nL cells slots Q w pc lv (.int i3 :: .int i2 :: .ref a :: .int i1 :: .ref a0 :: st) := by
  subst e1; subst e2; subst e3; subst hR
  intro H locs ls h1 h2 h3
  rw [hd.2] at k
  obtain ⟨ws, hP, hD, hH⟩ := h1
  obtain ⟨q0, hq0⟩ := hH _ _ hs
  obtain ⟨q1, hq1⟩ := hH _ _ ht
  have hw80 : nativeFrameWords "java/lang/System" "arraycopy" 5 + 11 ≤ 80 := by decide +kernel
  have hlb : (st.map fun v => v.category).sum + (nativeFrameWords "java/lang/System" "arraycopy" 5 + 11) ≤ (vRm d1 mc1 ms1).locals := by
    show _ ≤ 100 * d1
    omega
  have c1 : (nI sp).toNatClampNeg = sp := nI_clamp (by omega)
  have c2 : (nI dp).toNatClampNeg = dp := nI_clamp (by omega)
  have c3 : (nI n).toNatClampNeg = n := nI_clamp (by omega)
  refine va_copyi C.1.1 C.1.2.1 (C.1.2.2.1.trans h3.1.symm) C.1.2.2.2.1 (C.1.2.2.2.2 _ hl) (C.1.2.2.2.2 _ vw_cpyN) (C.1.2.2.2.2 _ vw_cpyS) (C.1.2.2.2.2 _ vw_cpyI) C.2.1.1 hP hD h2 q0 q1 0 0 hq0 hq1 rfl rfl rfl (nI_pos (by omega)) (nI_pos (by omega)) (nI_pos (by omega)) (by rw [c1, c3]; exact h4) (by rw [c2, c3]; exact h5) (by rw [c1, c3]; exact hfit) hd1 hlb hd.1 (fun H1 locs1 hP1 hD1 hS1 => ?_)
  rw [c1, c2, c3] at hP1 hD1
  exact k H1 locs1 ls ⟨_, hP1, hD1, hH.set hD hq1⟩ hS1 h3
theorem v_copyJ (C : vC G B p m meth c cc nL ret s args own) {index a0 a n0 n1 d1 mc1 ms1 : Nat} {f g : Nat → Int64} {i1 i2 i3 : Int32} (hl : Cond.methodLink own index arraycopyName ∈ vGW) (hd : vD cc pc (.invokestatic index) 3 pc') (hs : w a0 = some (eJ G n0 f)) (ht : w a = some (eJ G n1 g)) (sp dp n : Nat) (e1 : i1 = nI sp) (e2 : i2 = nI dp) (e3 : i3 = nI n) (h4 : sp + n ≤ n0) (h5 : dp + n ≤ n1) (hn0 : n0 < 2 ^ 31) (hn1 : n1 < 2 ^ 31) (hR : R = vRm d1 mc1 ms1) (hd1 : 1 ≤ d1) (hroom : (st.map fun v => v.category).sum ≤ 8) (k : V G B p l e R s m args below meth c nL cells slots Q (vUp w a (eJ G n1 (va_cpy f g sp dp n))) pc' lv st) : V G B p l e R s m args below meth c nL cells slots Q w pc lv (.int i3 :: .int i2 :: .ref a :: .int i1 :: .ref a0 :: st) := by
  subst e1; subst e2; subst e3; subst hR
  intro H locs ls h1 h2 h3
  rw [hd.2] at k
  obtain ⟨ws, hP, hD, hH⟩ := h1
  obtain ⟨q0, hq0⟩ := hH _ _ hs
  obtain ⟨q1, hq1⟩ := hH _ _ ht
  have hw80 : nativeFrameWords "java/lang/System" "arraycopy" 5 + 11 ≤ 80 := by decide +kernel
  have hlb : (st.map fun v => v.category).sum + (nativeFrameWords "java/lang/System" "arraycopy" 5 + 11) ≤ (vRm d1 mc1 ms1).locals := by
    show _ ≤ 100 * d1
    omega
  have c1 : (nI sp).toNatClampNeg = sp := nI_clamp (by omega)
  have c2 : (nI dp).toNatClampNeg = dp := nI_clamp (by omega)
  have c3 : (nI n).toNatClampNeg = n := nI_clamp (by omega)
  refine va_copyl C.1.1 C.1.2.1 (C.1.2.2.1.trans h3.1.symm) C.1.2.2.2.1 (C.1.2.2.2.2 _ hl) (C.1.2.2.2.2 _ vw_cpyN) (C.1.2.2.2.2 _ vw_cpyS) (C.1.2.2.2.2 _ vw_cpyI) C.2.1.1 hP hD h2 q0 q1 2 2 hq0 hq1 rfl rfl rfl (nI_pos (by omega)) (nI_pos (by omega)) (nI_pos (by omega)) (by rw [c1, c3]; exact h4) (by rw [c2, c3]; exact h5) (fun _ _ => rfl) hd1 hlb hd.1 (fun H1 locs1 hP1 hD1 hS1 => ?_)
  rw [c1, c2, c3] at hP1 hD1
  exact k H1 locs1 ls ⟨_, hP1, hD1, hH.set hD hq1⟩ hS1 h3
theorem v_gen {a : Nat} {e' : va_E} (k : ∀ w' : vW, w' a = some e' → (∀ q, q ≠ a → w' q = w q) → V G B p l e R s m args below meth c nL cells slots Q w' pc lv st) : V G B p l e R s m args below meth c nL cells slots Q (vUp w a e') pc lv st := k _ vUp_self (fun q h => vUp_ne h)
theorem v_natT {x y : Int32} (h : x = y) (k : V G B p l e R s m args below meth c nL cells slots Q w pc lv (.int y :: st)) : V G B p l e R s m args below meth c nL cells slots Q w pc lv (.int x :: st) := by subst h; exact k
theorem v_tsw (C : vC G B p m meth c cc nL ret s args own) {dflt lo hi : Int} {offs : Array Int} {len : Nat} {x : Int32} {off : Int} {tgt : Nat} (hd : vD cc pc (.tableswitch dflt lo hi offs) len pc') (h1 : ¬ x.toInt < lo) (h2 : ¬ hi < x.toInt) (ho : offs[(x.toInt - lo).toNat]? = some off) (ht : (pc : Int) + off = (tgt : Int)) (k : V G B p l e R s m args below meth c nL cells slots Q w tgt lv st) : V G B p l e R s m args below meth c nL cells slots Q w pc lv (.int x :: st) := fun H locs ls a1 a2 a3 => lv_tableIn C.1.1 C.1.2.1 hd.1 h1 h2 ho ht (k H locs ls a1 a2 a3)
end VHeap
