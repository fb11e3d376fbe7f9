/-! methods that may throw -/
def vXC (G : vG) (B : Nat) (w : vW) (xp : String → Prop) : String → State → State → Prop := fun E st t => (xp E ∧ vHolds G B w t.heap) ∧ va_F (fun q => B ≤ q) st t
def xOk (G : vG) (B : Nat) (l : Launch) (y : MethodName) (bytes : ByteArray) (maxL : Nat) (ret : Option FieldType) (d mc ms : Nat) (av : List Value) (w : vW) (post : Option Value → vW → Prop) (wx : vW) (xp : String → Prop) : Prop :=
  vx_Met l y (Cond.code y bytes maxL ret :: vGW) (vRm d mc ms) (va_Pc av (fun U => vEnv G B U ∧ vHolds G B w U.heap)) (vQ G B post) (vXC G B wx xp) mc ms (fun q => B ≤ q)
theorem vHolds.kept {G : vG} {B : Nat} {w : vW} {H H1 : Heap} (h : vHolds G B w H) (hq : ∀ q : Nat, q < H.size → H1[q]? = H[q]?) : vHolds G B w H1 := by
  obtain ⟨ws, h1, h2, h3⟩ := h
  exact ⟨ws, h1.kept (fun k x hx => hq x.1 ((h1 k x hx).lt)), h2, h3⟩
def xN : List String := ["java/lang/RuntimeException", "java/lang/Exception"]
def xB (E : String) : List Cond := [.castable E E, .declares ⟨"java/lang/RuntimeException", "<init>", "(Ljava/lang/String;)V"⟩, .declares ⟨"java/lang/Exception", "<init>", "(Ljava/lang/String;)V"⟩, .declares ⟨"java/lang/Throwable", "<init>", "(Ljava/lang/String;)V"⟩]
/-- an exception's words -/
def xE (E : String) (ik ic : Nat) : Prop := Cond.classLink RX11 ik E ∈ vGW ∧ Cond.initialized E ∈ vGW ∧ (∀ w ∈ (vx_atS RX11 ic E xN).filter goodWord, w ∈ vGW) ∧ (∀ w ∈ (vx_atS RX11 ic E xN).filter (fun w => !goodWord w), w ∈ xB E) ∧ (∀ w ∈ xB E, w ∈ vNW) ∧ (∀ w ∈ Cond.classLink RX11 ik E :: Cond.initialized E :: vx_atS RX11 ic E xN, vx_ot w = true) ∧ Bundle.fit E = true
theorem xN_fit : ∀ n ∈ xN, Bundle.fit n = true := by decide +kernel
abbrev eIOB : String := "java/lang/IndexOutOfBoundsException"
set_option maxRecDepth 100000 in
theorem xIOB : xE eIOB 53 57 := ⟨vGW_at 330 (by decide +kernel) (by decide +kernel), vGW_at 19 (by decide +kernel) (by decide +kernel), by decide +kernel, by decide +kernel, by decide +kernel, by decide +kernel, by decide +kernel⟩
abbrev eIAE : String := "java/lang/IllegalArgumentException"
set_option maxRecDepth 100000 in
theorem xIAE : xE eIAE 82 86 := ⟨vGW_at 414 (by decide +kernel) (by decide +kernel), vGW_at 20 (by decide +kernel) (by decide +kernel), by decide +kernel, by decide +kernel, by decide +kernel, by decide +kernel, by decide +kernel⟩
abbrev eISE : String := "java/lang/IllegalStateException"
set_option maxRecDepth 100000 in
theorem xISE : xE eISE 107 111 := ⟨vGW_at 775 (by decide +kernel) (by decide +kernel), vGW_at 32 (by decide +kernel) (by decide +kernel), by decide +kernel, by decide +kernel, by decide +kernel, by decide +kernel, by decide +kernel⟩
abbrev eUOE : String := "java/lang/UnsupportedOperationException"
set_option maxRecDepth 100000 in
theorem xUOE : xE eUOE 171 175 := ⟨vGW_at 978 (by decide +kernel) (by decide +kernel), vGW_at 34 (by decide +kernel) (by decide +kernel), by decide +kernel, by decide +kernel, by decide +kernel, by decide +kernel, by decide +kernel⟩
section VX
variable {G : vG} {B : Nat} {p : Program} {l : Launch} {e : Env} {R : Room} {s : State} {m : MethodId} {args : Array Value} {below : List Frame} {meth : Method} {c : Code} {nL cells slots : Nat} {Q : State → Prop} {w wx : vW} {cc : ByteArray} {ret : Option FieldType} {own : String} {pc pc' pc3 pc4 pc6 pc9 pc10 : Nat} {lv : List (Nat × Value)} {st : List Value}
theorem xOk.of {y : MethodName} {bytes : ByteArray} {maxL d mc ms : Nat} {av : List Value} {post : Option Value → vW → Prop} {xp : String → Prop} (hy : plainName y.cls = true) (hlen : (lg_sl av).length ≤ maxL)
    (h : ∀ (p : Program) (e : Env) (s : State) (m : MethodId) (args : Array Value) (below : List Frame) (meth : Method) (c : Code), vC G B p m meth c bytes maxL ret s args y.cls → (∀ x ∈ c.exceptionTable.toList, False) → V G B p l e (vRm d mc ms) s m args below meth c maxL 0 0 (vx_MQ below (vQ G B post) (vXC G B wx xp) args s mc ms (fun q => B ≤ q)) w 0 (lv_args 0 av) []) : xOk G B l y bytes maxL ret d mc ms av w post wx xp := by
  refine vx_ofW (cc := bytes) (maxL := maxL) (ret := ret) hy rfl ?_
  intro p e s m args below meth c s₁ Bd hml hnt hv
  obtain ⟨rfl, hE, hW⟩ := hv
  have hts := atoms_spec (ws := Cond.code y bytes maxL ret :: vGW) Bd.pre
  have hown : s.vm.findClass y.cls = some m.cls := findClass_of_methodNamed Bd.named
  have C : vC G B p m meth c bytes maxL ret s av.toArray y.cls := ⟨⟨Bd.exec, Bd.bytes, hml, hown, fun w h => hts w (List.mem_cons_of_mem _ h)⟩, hE, Bd.returns, Bd.notSynchronized⟩
  rw [lg_entry_eq]
  exact h p e s m _ below meth c C hnt s.heap [] _ hW va_S.rf (lv_entry av hlen)
theorem x_ret {Qc : Array Value → State → Outcome → State → Prop} {XC : String → State → State → Prop} {mc ms : Nat} {free : Addr → Prop} (k : V G B p l e R s m args below meth c nL cells slots (MQ below Qc args s mc ms free) w pc lv st) : V G B p l e R s m args below meth c nL cells slots (vx_MQ below Qc XC args s mc ms free) w pc lv st := fun H locs ls a b d => vx_ret (k H locs ls a b d)
theorem x_throw (hl : l.stackTraces = false) (C : vC G B p m meth c cc nL ret s args RX11) (hnt : ∀ x ∈ c.exceptionTable.toList, False) {Qc : Array Value → State → Outcome → State → Prop} {xp : String → Prop} {E text : String} {ik is ic d1 mc1 ms1 mc ms : Nat} (hE : xE E ik ic) (hs : (is, text) ∈ vSt) (hR : R = vRm d1 mc1 ms1) (hfr : 6 ≤ d1) (d0 : vD cc pc (.new ik) 3 pc3) (d3 : vD cc pc3 .dup 1 pc4) (d4 : vD cc pc4 (.ldc is) 2 pc6) (d6 : vD cc pc6 (.invokespecial ic) 3 pc9) (d9 : vD cc pc9 .athrow 1 pc10) (hx : xp E) (hst : (st.map fun v => v.category).sum ≤ 8) (hrm : cells + 1 ≤ mc1 ∧ slots + 6 ≤ ms1) (hmc : cells + 1 ≤ mc ∧ slots + 6 ≤ ms) (hw : ∀ a x, wx a = some x → w a = some x) : V G B p l e R s m args below meth c nL cells slots (vx_MQ below Qc (vXC G B wx xp) args s mc ms (fun q => B ≤ q)) w pc lv st := by
  subst hR
  intro H locs ls h1 h2 h3
  obtain ⟨e0, p0⟩ := d0
  obtain ⟨e3, p3⟩ := d3
  obtain ⟨e4, p4⟩ := d4
  obtain ⟨e6, p6⟩ := d6
  obtain ⟨e9, p9⟩ := d9
  subst p0; subst p3; subst p4; subst p6
  obtain ⟨w1, w2, w3, w4, w5, w6, w7⟩ := hE
  obtain ⟨sa, hstr⟩ := C.2.1.2.2.2.2.2.2.1 (is, text) hs
  exact vx_throwS (own := RX11) (cls := E) (names := xN) C.1.1 C.1.2.1 hl C.1.2.2.2.1 w7 xN_fit (C.1.2.2.2.2 _ w1) (C.1.2.2.2.2 _ w2) hstr (vx_hat (L := vx_atS RX11 ic E xN) (B := xB E) (fun w hw => C.1.2.2.2.2 w (w3 w hw)) w4 (fun w hw => va_Nw.use (vNk_onTables (List.all_eq_true.mp vNW_kind w (w5 w hw))) (C.2.1.2.2.1 w (w5 w hw)))) w6 C.2.1.2.2.2.2.2.1.1 C.2.1.2.2.2.2.2.1.2 h2 (h3.1.trans C.1.2.2.1.symm) e0 e3 e4 e6 e9 (fun x hx => absurd (hnt x hx) not_false) (by show 2 + 3 < d1; omega) (by show _ + (13 * (2 + 1) + 43) ≤ 100 * d1; omega) hrm.1 hrm.2 C.2.2.2 (fun t ha hsz hk => ⟨⟨hx, (h1.sub hw).kept hk⟩, Nat.le_trans h2.1 hsz, fun q q1 q2 => (hk q (Nat.lt_of_lt_of_le q1 h2.1)).trans (h2.2.1 q q1 q2)⟩) h2.2.2 hmc.1 hmc.2
/-- behind a call of a method that may throw: it goes on, or the throw goes on over this frame -/
theorem x_cont {mc ms : Nat} {st0 rest : List Value} {a : Array Value} {post : Option Value → vW → Prop} {wy : vW} {xp : String → Prop} (hr : ∀ (H : Heap) (locs : List Loc) (ls : Array Slot), vHolds G B w H → va_S (fun q => B ≤ q) s.heap H locs → lv_has ls nL lv → vx_Run p l e R s m args below meth c H locs cells slots mc ms (F0 m pc ls st0) rest (vQ G B post a) (vXC G B wy xp) (fun q => B ≤ q))
    (kx : ∀ (E : String) (ce : Cell) (q : Addr) (H : Heap) (locs : List Loc) (ls : Array Slot), xp E → vHolds G B wy H → va_S (fun q => B ≤ q) s.heap H locs → lv_has ls nL lv → H[q]? = some ce → ce.vm = .none → s.vm.findClass E = some ce.cls → vx_W p l e R s m args below meth c H locs (cells + mc) (slots + ms) Q (F0 m pc ls rest) q)
    (kk : ∀ (r : Option Value) (w' : vW), post r w' → V G B p l e R s m args below meth c nL (cells + mc) (slots + ms) Q w' (pc + 3) lv (r.toList ++ rest)) : V G B p l e R s m args below meth c nL cells slots Q w pc lv st0 := by
  intro H locs ls h1 h2 h3 T hT X
  have app : ∀ {L : List Loc}, (∀ q ∈ L, B ≤ q.base) → ∀ q ∈ locs ++ L, B ≤ q.base := fun hL q hq => by
    rcases List.mem_append.mp hq with h | h
    · exact h2.2.2 q h
    · exact hL q h
  rcases hr H locs ls h1 h2 h3 T hT X with ⟨v, st₀, t, T', L, h0, X', hL, e1, e2, ⟨⟨r, w', hv, hp, hb⟩, hz, hk⟩, stp⟩ | ⟨q, st₀, t, T', L, E, ce, h0, X', hL, e1, e2, ⟨⟨hp, hb⟩, hz, hk⟩, hce, hcv, hcl, stp⟩
  · cases hv
    rw [h0] at hz hk
    obtain ⟨t2, a1, b1⟩ := kk v w' hp T'.heap (locs ++ L) ls (by rw [e1]; exact hb) ⟨Nat.le_trans h2.1 (by rw [e1]; exact hz), fun q q1 q2 => by rw [e1, hk q (Nat.lt_of_lt_of_le q1 h2.1) q2]; exact h2.2.1 q q1 q2, app hL⟩ h3 T' rfl X'
    exact ⟨t2, stp t2 a1, b1⟩
  · rw [h0] at hz hk
    obtain ⟨t2, a1, b1⟩ := kx E ce q T'.heap (locs ++ L) ls hp (by rw [e1]; exact hb) ⟨Nat.le_trans h2.1 (by rw [e1]; exact hz), fun q q1 q2 => by rw [e1, hk q (Nat.lt_of_lt_of_le q1 h2.1) q2]; exact h2.2.1 q q1 q2, app hL⟩ h3 (by rw [e1]; exact hce) hcv hcl T' rfl X'
    exact ⟨t2, stp.trans a1, b1⟩
theorem x_pass (C : vC G B p m meth c cc nL ret s args own) (hnt : ∀ x ∈ c.exceptionTable.toList, False) {Qc : Array Value → State → Outcome → State → Prop} {wy : vW} {xp xq : String → Prop} {mc ms : Nat} {rest : List Value} (hxx : ∀ E, xq E → xp E) (hw : ∀ a x, wx a = some x → wy a = some x) (hmc : cells ≤ mc ∧ slots ≤ ms) : ∀ (E : String) (ce : Cell) (q : Addr) (H : Heap) (locs : List Loc) (ls : Array Slot), xq E → vHolds G B wy H → va_S (fun q => B ≤ q) s.heap H locs → lv_has ls nL lv → H[q]? = some ce → ce.vm = .none → s.vm.findClass E = some ce.cls → vx_W p l e R s m args below meth c H locs cells slots (vx_MQ below Qc (vXC G B wx xp) args s mc ms (fun q => B ≤ q)) (F0 m pc ls rest) q :=
  fun E ce q H locs ls hx h1 h2 h3 hce hcv hcl => vx_out (E := E) (ce := ce) (fun x hx => absurd (hnt x hx) not_false) C.2.2.2 hce hcv hcl (fun t ht ha => ⟨⟨hxx E hx, by rw [ht]; exact h1.sub hw⟩, h2.F ht⟩) h2.2.2 hmc.1 hmc.2
theorem x_runS (C : vC G B p m meth c cc nL ret s args own) (hno : ∀ i y h, Cond.methodLinkNest own i y h ∉ vNW) {index n maxL d mc ms : Nat} {y : MethodName} {bytes : ByteArray} {rt : Option FieldType} {av rest : List Value} {post : Option Value → vW → Prop} {wy : vW} {xq : String → Prop} (hm : vLS own index y bytes maxL rt n) (hok : xOk G B l y bytes maxL rt d mc ms av w post wy xq) (hfit : (vRm d mc ms).frames + 1 ≤ R.frames ∧ 8 + (maxL + 11) + (vRm d mc ms).locals ≤ R.locals) (hrm : cells + mc ≤ R.cells ∧ slots + ms ≤ R.slots) (hn : av.length = n) (hst : st = av.reverse ++ rest) (hroom : (rest.map fun v => v.category).sum ≤ 8) (hd : vD cc pc (.invokestatic index) 3 pc')
    (kx : ∀ (E : String) (ce : Cell) (q : Addr) (H : Heap) (locs : List Loc) (ls : Array Slot), xq E → vHolds G B wy H → va_S (fun q => B ≤ q) s.heap H locs → lv_has ls nL lv → H[q]? = some ce → ce.vm = .none → s.vm.findClass E = some ce.cls → vx_W p l e R s m args below meth c H locs (cells + mc) (slots + ms) Q (F0 m pc ls rest) q)
    (k : ∀ (r : Option Value) (w' : vW), post r w' → V G B p l e R s m args below meth c nL (cells + mc) (slots + ms) Q w' pc' lv (r.toList ++ rest)) : V G B p l e R s m args below meth c nL cells slots Q w pc lv st := by
  subst hst
  obtain ⟨hlink, hstat, hini, hcode, hcls, hpar⟩ := hm
  rw [hd.2] at k
  refine x_cont (mc := mc) (ms := ms) (rest := rest) (post := post) (wy := wy) (xp := xq) (a := av.toArray) (fun H locs ls h1 h2 h3 => ?_) kx k
  rcases hlink with h | ⟨host, h⟩
  · exact vx_runS C.1 hok ⟨callB_of n C.1.2.2.2.2 (vGood hcode) rfl rfl rfl (C.1.2.2.2.2 _ hini) (C.1.2.2.2.2 _ h) ⟨hcls.1, hcls.2, hpar⟩ hfit, C.1.2.2.2.2 _ hstat⟩ (vPre C.2.1 h1 h2) rfl hn h3.1 rfl (lv_room hroom) hd.1 hrm
  · exact absurd h (hno _ _ _)
theorem x_callS (C : vC G B p m meth c cc nL ret s args own) (hno : ∀ i y h, Cond.methodLinkNest own i y h ∉ vNW) (hnt : ∀ x ∈ c.exceptionTable.toList, False) {index n maxL d mc ms d1 mc1 ms1 MC MS : Nat} {y : MethodName} {bytes : ByteArray} {rt : Option FieldType} {av rest : List Value} {Qc : Array Value → State → Outcome → State → Prop} {post : Option Value → vW → Prop} {wy : vW} {xp xq : String → Prop} (hm : vLS own index y bytes maxL rt n) (hok : xOk G B l y bytes maxL rt d mc ms av w post wy xq) (hR : R = vRm d1 mc1 ms1) (hdd : d + 1 ≤ d1) (hml : maxL ≤ 60) (hrm : cells + mc ≤ mc1 ∧ slots + ms ≤ ms1) (hn : av.length = n) (hst : st = av.reverse ++ rest) (hroom : (rest.map fun v => v.category).sum ≤ 8) (hd : vD cc pc (.invokestatic index) 3 pc') (hxx : ∀ E, xq E → xp E) (hw : ∀ a x, wx a = some x → wy a = some x) (hmc : cells + mc ≤ MC ∧ slots + ms ≤ MS)
    (k : ∀ (r : Option Value) (w' : vW), post r w' → V G B p l e R s m args below meth c nL (cells + mc) (slots + ms) (vx_MQ below Qc (vXC G B wx xp) args s MC MS (fun q => B ≤ q)) w' pc' lv (r.toList ++ rest)) : V G B p l e R s m args below meth c nL cells slots (vx_MQ below Qc (vXC G B wx xp) args s MC MS (fun q => B ≤ q)) w pc lv st := by
  subst hR
  exact x_runS C hno hm hok (vRm_fit hdd hml) hrm hn hst hroom hd (x_pass C hnt hxx hw hmc) k
theorem x_runV (C : vC G B p m meth c cc nL ret s args own) (hno : ∀ i y h, Cond.methodLinkNest own i y h ∉ vNW) {index n maxL d mc ms : Nat} {y : MethodName} {bytes : ByteArray} {rt : Option FieldType} {As rest fs : List Value} {b ci : Nat} {post : Option Value → vW → Prop} {wy : vW} {xq : String → Prop} (hm : vLV own index y bytes maxL rt n ci) (hok : xOk G B l y bytes maxL rt d mc ms (.ref b :: As) w post wy xq) (hw0 : w b = some (eO ci fs)) (hfit : (vRm d mc ms).frames + 1 ≤ R.frames ∧ 8 + (maxL + 11) + (vRm d mc ms).locals ≤ R.locals) (hrm : cells + mc ≤ R.cells ∧ slots + ms ≤ R.slots) (hn : As.length = n) (hst : st = As.reverse ++ .ref b :: rest) (hroom : (rest.map fun v => v.category).sum ≤ 8) (hd : vD cc pc (.invokevirtual index) 3 pc')
    (kx : ∀ (E : String) (ce : Cell) (q : Addr) (H : Heap) (locs : List Loc) (ls : Array Slot), xq E → vHolds G B wy H → va_S (fun q => B ≤ q) s.heap H locs → lv_has ls nL lv → H[q]? = some ce → ce.vm = .none → s.vm.findClass E = some ce.cls → vx_W p l e R s m args below meth c H locs (cells + mc) (slots + ms) Q (F0 m pc ls rest) q)
    (k : ∀ (r : Option Value) (w' : vW), post r w' → V G B p l e R s m args below meth c nL (cells + mc) (slots + ms) Q w' pc' lv (r.toList ++ rest)) : V G B p l e R s m args below meth c nL cells slots Q w pc lv st := by
  subst hst
  obtain ⟨⟨q, hc, hq⟩, hlink, hinst, hsel, hini, hcode, hcls, hpar⟩ := hm
  rw [hd.2] at k
  refine x_cont (mc := mc) (ms := ms) (rest := rest) (post := post) (wy := wy) (xp := xq) (a := (Value.ref b :: As).toArray) (fun H locs ls h1 h2 h3 => ?_) kx k
  have hpre := vPreV (As := As) C.2.1 h1 h2 hw0 hc
  rw [hq] at hpre
  rcases hlink with h | ⟨host, h⟩
  · exact vx_runV C.1 hok ⟨callB_of n C.1.2.2.2.2 (vGood hcode) rfl rfl rfl (C.1.2.2.2.2 _ hini) (C.1.2.2.2.2 _ h) ⟨hcls.1, hcls.2, hpar⟩ hfit, C.1.2.2.2.2 _ hinst, C.1.2.2.2.2 _ hsel⟩ hpre rfl hn h3.1 rfl (lv_room hroom) hd.1 hrm
  · exact absurd h (hno _ _ _)
theorem x_callV (C : vC G B p m meth c cc nL ret s args own) (hno : ∀ i y h, Cond.methodLinkNest own i y h ∉ vNW) (hnt : ∀ x ∈ c.exceptionTable.toList, False) {index n maxL d mc ms d1 mc1 ms1 MC MS : Nat} {y : MethodName} {bytes : ByteArray} {rt : Option FieldType} {As rest fs : List Value} {b ci : Nat} {Qc : Array Value → State → Outcome → State → Prop} {post : Option Value → vW → Prop} {wy : vW} {xp xq : String → Prop} (hm : vLV own index y bytes maxL rt n ci) (hok : xOk G B l y bytes maxL rt d mc ms (.ref b :: As) w post wy xq) (hw0 : w b = some (eO ci fs)) (hR : R = vRm d1 mc1 ms1) (hdd : d + 1 ≤ d1) (hml : maxL ≤ 60) (hrm : cells + mc ≤ mc1 ∧ slots + ms ≤ ms1) (hn : As.length = n) (hst : st = As.reverse ++ .ref b :: rest) (hroom : (rest.map fun v => v.category).sum ≤ 8) (hd : vD cc pc (.invokevirtual index) 3 pc') (hxx : ∀ E, xq E → xp E) (hw : ∀ a x, wx a = some x → wy a = some x) (hmc : cells + mc ≤ MC ∧ slots + ms ≤ MS)
    (k : ∀ (r : Option Value) (w' : vW), post r w' → V G B p l e R s m args below meth c nL (cells + mc) (slots + ms) (vx_MQ below Qc (vXC G B wx xp) args s MC MS (fun q => B ≤ q)) w' pc' lv (r.toList ++ rest)) : V G B p l e R s m args below meth c nL cells slots (vx_MQ below Qc (vXC G B wx xp) args s MC MS (fun q => B ≤ q)) w pc lv st := by
  subst hR
  exact x_runV C hno hm hok hw0 (vRm_fit hdd hml) hrm hn hst hroom hd (x_pass C hnt hxx hw hmc) k
end VX
theorem hno_own {own : String} (h : own ≠ RX7) : ∀ (i : Nat) (y : MethodName) (q : String), Cond.methodLinkNest own i y q ∉ vNW := fun i y q hq => by
  simp only [vNW, List.mem_cons, List.not_mem_nil, or_false, reduceCtorEq, Cond.methodLinkNest.injEq, false_or] at hq
  exact h hq.1
theorem hnoX11 : ∀ (i : Nat) (y : MethodName) (q : String), Cond.methodLinkNest RX11 i y q ∉ vNW := hno_own (by decide)
theorem hnoL : ∀ (i : Nat) (y : MethodName) (q : String), Cond.methodLinkNest RL i y q ∉ vNW := hno_own (by decide)
