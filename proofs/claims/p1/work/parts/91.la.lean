/-! rows for any room (the law's) -/
section GR
variable {G : vG} {B : Nat} {p : Program} {l : Launch} {e : Env} {R : Room} {s : State} {m : MethodId} {args : Array Value} {below : List Frame} {meth : Method} {c : Code} {nL cells slots : Nat} {Q : State → Prop} {w : vW} {cc : ByteArray} {ret : Option FieldType} {own : String} {pc pc' : Nat} {lv : List (Nat × Value)} {st : List Value}
theorem g_new (C : vC G B p m meth c cc nL ret s args own) {ci index : Nat} {fs : List Value} (hn : vNew own index ci fs) (hrm : cells + 1 ≤ R.cells ∧ slots + fs.length ≤ R.slots) (hd : vD cc pc (.new index) 3 pc') (k : ∀ a, w a = none → B ≤ a → V G B p l e R s m args below meth c nL (cells + 1) (slots + fs.length) Q (vUp w a (eO ci fs)) pc' lv (.ref a :: st)) : V G B p l e R s m args below meth c nL cells slots Q w pc lv st := by
  obtain ⟨Cn, T, N, ty, hc, hin, hty, hcl, hinst, hini, hfs⟩ := hn
  have hN : fs.length = N := by rw [← hfs]; simp
  rw [hN] at hrm k
  intro H locs ls h1 h2 h3
  obtain ⟨ws, hP, hD, hH⟩ := h1
  refine va_new C.1.1 C.1.2.1 C.1.2.2.2.2 hin ty hty C.1.2.2.2.1 (C.1.2.2.2.2 _ hcl) (C.1.2.2.2.2 _ hinst) (C.1.2.2.2.2 _ hini) C.2.1.1 hP hD h2 (fun q hq => Nat.le_trans C.2.1.2.1 hq) hc (fs := fs) (fun j hj => by rw [← hfs]; simp [vp_V, List.getD, hj]) hrm.1 hrm.2 hd.1 (fun q H1 hP1 hD1 hS1 => ?_)
  have k := k q (v_fresh hD1 hH) (hD1.2 ws.length _ v_lastA)
  rw [hd.2] at k
  exact k H1 locs ls ⟨_, hP1, hD1, hH.push⟩ hS1 h3
theorem g_newJ (C : vC G B p m meth c cc nL ret s args own) {n : Nat} {i : Int32} (hd : vD cc pc (.newarray .long) 2 pc') (hi : i = nI n) (hn : n ≤ 67108864) (hrm : cells + 1 ≤ R.cells ∧ slots + n ≤ R.slots) (k : ∀ a, w a = none → B ≤ a → V G B p l e R s m args below meth c nL (cells + 1) (slots + n) Q (vUp w a (eJ G n (fun _ => 0))) pc' lv (.ref a :: st)) : V G B p l e R s m args below meth c nL cells slots Q w pc lv (.int i :: st) := by
  subst hi
  intro H locs ls h1 h2 h3
  obtain ⟨ws, hP, hD, hH⟩ := h1
  refine va_newa C.1.1 C.1.2.1 (atype := .long) (C.1.2.2.2.2 _ vw_ac_long) (ty := .long) rfl C.2.1.1 hP hD h2 (fun q hq => Nat.le_trans C.2.1.2.1 hq) (a0 := (n, .inr (.inl (fun _ => 0)))) (fun cA => rfl) (nI_pos (by omega)) (nI_clamp (by omega)) (show n * 8 ≤ 536870912 by omega) hrm.1 hrm.2 hd.1 (fun q cA H1 hK1 hP1 hD1 hS1 => ?_)
  have e1 : s.vm.findClass _ = some cA := (hK1.2 4 (cA, .long) rfl).2
  have e0 : s.vm.findClass _ = some (G.2 2) := (C.2.1.1.2 2 (G.2 2, .long) rfl).2
  have ec : cA = G.2 2 := Option.some.inj (e1.symm.trans e0)
  subst ec
  have k := k q (v_fresh hD1 hH) (hD1.2 ws.length _ v_lastA)
  rw [hd.2] at k
  exact k H1 locs ls ⟨_, hP1, hD1, hH.push⟩ hS1 h3
theorem g_callI (C : vC G B p m meth c cc nL ret s args own) {index n maxL d mc ms : Nat} {y : MethodName} {bytes : ByteArray} {As rest : List Value} {b : Nat} {post : Option Value → vW → Prop} (hm : vLI own index y bytes maxL n) (hok : vOk G B l y bytes maxL none d mc ms (.ref b :: As) w post) (hfit : (vRm d mc ms).frames + 1 ≤ R.frames ∧ 8 + (maxL + 11) + (vRm d mc ms).locals ≤ R.locals) (hrm : cells + mc ≤ R.cells ∧ slots + ms ≤ R.slots) (hn : As.length = n) (hst : st = As.reverse ++ .ref b :: rest) (hroom : (rest.map fun v => v.category).sum ≤ 8) (hd : vD cc pc (.invokespecial index) 3 pc') (k : ∀ (r : Option Value) (w' : vW), post r w' → V G B p l e R s m args below meth c nL (cells + mc) (slots + ms) Q w' pc' lv (r.toList ++ rest)) : V G B p l e R s m args below meth c nL cells slots Q w pc lv st := by
  subst hst
  obtain ⟨hlink, hinst, hini, hcode, hname, hcls, hpar⟩ := hm
  rw [hd.2] at k
  refine v_cont (mc := mc) (ms := ms) (rest := rest) (post := post) (a := (Value.ref b :: As).toArray) (fun H locs ls h1 h2 h3 => ?_) k
  rcases hlink with h | ⟨host, h⟩
  · exact va_runI C.1 hok ⟨callB_of n C.1.2.2.2.2 (vGood hcode) rfl rfl rfl (C.1.2.2.2.2 _ hini) (C.1.2.2.2.2 _ h) ⟨hcls.1, hcls.2, hpar⟩ hfit, hname, C.1.2.2.2.2 _ hinst⟩ (vPre C.2.1 h1 h2) rfl hn h3.1 rfl (lv_room hroom) hd.1 hrm
  · exact va_runIN C.1 hok ⟨va_cnB n C.1.2.2.2.2 (vGood hcode) rfl rfl rfl (C.2.1.2.2.1 _ h) (C.1.2.2.2.2 _ hini) ⟨hcls.1, hcls.2, hpar⟩ hfit, hname, C.1.2.2.2.2 _ hinst⟩ (vPre C.2.1 h1 h2) rfl hn h3.1 rfl (lv_room hroom) hd.1 hrm
theorem g_callV (C : vC G B p m meth c cc nL ret s args own) {index n maxL d mc ms : Nat} {y : MethodName} {bytes : ByteArray} {rt : Option FieldType} {ad : Nat → Nat} {N : Nat} {σ : nS} (I : nI1 ad N) {As rest fs : List Value} {b ci : Nat} {post : Option Value → nS → Prop} (hm : vLV own index y bytes maxL rt n ci) (hok : nOk G B l ad N y bytes maxL rt d mc ms (.ref (ad b) :: As) σ post) (hb : b < N) (hs : σ b = eO ci fs) (hfit : (vRm d mc ms).frames + 1 ≤ R.frames ∧ 8 + (maxL + 11) + (vRm d mc ms).locals ≤ R.locals) (hrm : cells + mc ≤ R.cells ∧ slots + ms ≤ R.slots) (hn : As.length = n) (hst : st = As.reverse ++ .ref (ad b) :: rest) (hroom : (rest.map fun v => v.category).sum ≤ 8) (hd : vD cc pc (.invokevirtual index) 3 pc') (k : ∀ (r : Option Value) (σ' : nS), post r σ' → V G B p l e R s m args below meth c nL (cells + mc) (slots + ms) Q (nW ad N σ') pc' lv (r.toList ++ rest)) : V G B p l e R s m args below meth c nL cells slots Q (nW ad N σ) pc lv st := by
  subst hst
  obtain ⟨⟨q, hc, hq⟩, hlink, hinst, hsel, hini, hcode, hcls, hpar⟩ := hm
  rw [hd.2] at k
  have hw : nW ad N σ (ad b) = some (eO ci fs) := (nW_at I hb).trans (congrArg some hs)
  refine v_cont (mc := mc) (ms := ms) (rest := rest) (post := fun r w' => ∃ σ' : nS, w' = nW ad N σ' ∧ post r σ') (a := (Value.ref (ad b) :: As).toArray) (fun H locs ls h1 h2 h3 => ?_) (fun r w' h => by obtain ⟨σ', rfl, hp⟩ := h; exact k r σ' hp)
  have hpre := vPreV (As := As) C.2.1 h1 h2 hw hc
  rw [hq] at hpre
  rcases hlink with h | ⟨host, h⟩
  · exact va_runV C.1 hok ⟨callB_of n C.1.2.2.2.2 (vGood hcode) rfl rfl rfl (C.1.2.2.2.2 _ hini) (C.1.2.2.2.2 _ h) ⟨hcls.1, hcls.2, hpar⟩ hfit, C.1.2.2.2.2 _ hinst, C.1.2.2.2.2 _ hsel⟩ hpre rfl hn h3.1 rfl (lv_room hroom) hd.1 hrm
  · exact va_runVN C.1 hok ⟨va_cnB n C.1.2.2.2.2 (vGood hcode) rfl rfl rfl (C.2.1.2.2.1 _ h) (C.1.2.2.2.2 _ hini) ⟨hcls.1, hcls.2, hpar⟩ hfit, C.1.2.2.2.2 _ hinst, C.1.2.2.2.2 _ hsel⟩ hpre rfl hn h3.1 rfl (lv_room hroom) hd.1 hrm
/-- the script -/
theorem g_sld (C : vC G B p m meth c cc nL ret s args own) {b L : Nat} {xs : Nat → Int32} (hX : va_X b L xs s s.heap) (hbl : b < s.heap.size) (hbA : ¬ B ≤ b) {i : Int32} (j : Nat) (hi : i = nI j) (hj : j < L) (hL : L < 2 ^ 31) (hd : vD cc pc .iaload 1 pc') (k : V G B p l e R s m args below meth c nL cells slots Q w pc' lv (.int (xs j) :: st)) : V G B p l e R s m args below meth c nL cells slots Q w pc lv (.int i :: .ref b :: st) := by
  subst hi
  intro H locs ls h1 h2 h3
  have k := k H locs ls h1 h2 h3
  rw [hd.2] at k
  refine va_sld C.1.1 C.1.2.1 hX hbl hbA h2 (vp_in_nI hj hL) hd.1 ?_
  rw [nI_clamp (Nat.lt_trans hj hL)]
  exact k
theorem g_slen (C : vC G B p m meth c cc nL ret s args own) {b L : Nat} {xs : Nat → Int32} (hX : va_X b L xs s s.heap) (hbl : b < s.heap.size) (hbA : ¬ B ≤ b) (hd : vD cc pc .arraylength 1 pc') (k : V G B p l e R s m args below meth c nL cells slots Q w pc' lv (.int (nI L) :: st)) : V G B p l e R s m args below meth c nL cells slots Q w pc lv (.ref b :: st) := by
  intro H locs ls h1 h2 h3
  have k := k H locs ls h1 h2 h3
  rw [hd.2] at k
  exact va_slen C.1.1 C.1.2.1 hX hbl hbA h2 hd.1 k
theorem g_tswN (C : vC G B p m meth c cc nL ret s args own) {dflt lo hi : Int} {offs : Array Int} {len : Nat} {x : Int32} {tgt : Nat} (hd : vD cc pc (.tableswitch dflt lo hi offs) len pc') (h : x.toInt < lo ∨ hi < x.toInt) (ht : (pc : Int) + dflt = (tgt : Int)) (k : V G B p l e R s m args below meth c nL cells slots Q w tgt lv st) : V G B p l e R s m args below meth c nL cells slots Q w pc lv (.int x :: st) := fun H locs ls a1 a2 a3 => lv_tableOut C.1.1 C.1.2.1 hd.1 h ht (k H locs ls a1 a2 a3)
end GR
theorem eL_law_0 : vD cL_law 0 (.new 8) 3 3 := ⟨by decide +kernel, rfl⟩
theorem eL_law_3 : vD cL_law 3 .dup 1 4 := ⟨by decide +kernel, rfl⟩
theorem eL_law_4 : vD cL_law 4 (.invokespecial 59) 3 7 := ⟨by decide +kernel, rfl⟩
theorem eL_law_7 : vD cL_law 7 (.astore_n 1) 1 8 := ⟨by decide +kernel, rfl⟩
theorem eL_law_8 : vD cL_law 8 (.new 60) 3 11 := ⟨by decide +kernel, rfl⟩
theorem eL_law_11 : vD cL_law 11 .dup 1 12 := ⟨by decide +kernel, rfl⟩
theorem eL_law_12 : vD cL_law 12 (.invokespecial 62) 3 15 := ⟨by decide +kernel, rfl⟩
theorem eL_law_15 : vD cL_law 15 (.astore_n 2) 1 16 := ⟨by decide +kernel, rfl⟩
theorem eL_law_16 : vD cL_law 16 (.iconst 1) 1 17 := ⟨by decide +kernel, rfl⟩
theorem eL_law_17 : vD cL_law 17 (.newarray .long) 2 19 := ⟨by decide +kernel, rfl⟩
theorem eL_law_19 : vD cL_law 19 (.astore_n 3) 1 20 := ⟨by decide +kernel, rfl⟩
theorem eL_law_20 : vD cL_law 20 (.iconst 0) 1 21 := ⟨by decide +kernel, rfl⟩
theorem eL_law_21 : vD cL_law 21 (.istore 4) 2 23 := ⟨by decide +kernel, rfl⟩
theorem eL_law_23 : vD cL_law 23 (.iload 4) 2 25 := ⟨by decide +kernel, rfl⟩
theorem eL_law_25 : vD cL_law 25 (.aload_n 0) 1 26 := ⟨by decide +kernel, rfl⟩
theorem eL_law_26 : vD cL_law 26 .arraylength 1 27 := ⟨by decide +kernel, rfl⟩
theorem eL_law_27 : vD cL_law 27 (.bipush 6) 2 29 := ⟨by decide +kernel, rfl⟩
theorem eL_law_29 : vD cL_law 29 .isub 1 30 := ⟨by decide +kernel, rfl⟩
theorem eL_law_30 : vD cL_law 30 (.if_icmp .gt 969) 3 33 := ⟨by decide +kernel, rfl⟩
theorem eL_law_33 : vD cL_law 33 (.aload_n 0) 1 34 := ⟨by decide +kernel, rfl⟩
theorem eL_law_34 : vD cL_law 34 (.iload 4) 2 36 := ⟨by decide +kernel, rfl⟩
theorem eL_law_36 : vD cL_law 36 .iaload 1 37 := ⟨by decide +kernel, rfl⟩
theorem eL_law_37 : vD cL_law 37 (.bipush 15) 2 39 := ⟨by decide +kernel, rfl⟩
theorem eL_law_39 : vD cL_law 39 .iand 1 40 := ⟨by decide +kernel, rfl⟩
theorem eL_law_40 : vD cL_law 40 (.tableswitch 953 0 11 #[64, 168, 236, 304, 372, 452, 508, 575, 650, 706, 774, 849]) 64 104 := ⟨by decide +kernel, rfl⟩
theorem eL_law_104 : vD cL_law 104 (.aload_n 1) 1 105 := ⟨by decide +kernel, rfl⟩
theorem eL_law_105 : vD cL_law 105 (.aload_n 0) 1 106 := ⟨by decide +kernel, rfl⟩
theorem eL_law_106 : vD cL_law 106 (.iload 4) 2 108 := ⟨by decide +kernel, rfl⟩
theorem eL_law_108 : vD cL_law 108 (.iconst 1) 1 109 := ⟨by decide +kernel, rfl⟩
theorem eL_law_109 : vD cL_law 109 .iadd 1 110 := ⟨by decide +kernel, rfl⟩
theorem eL_law_110 : vD cL_law 110 .iaload 1 111 := ⟨by decide +kernel, rfl⟩
theorem eL_law_111 : vD cL_law 111 (.aload_n 0) 1 112 := ⟨by decide +kernel, rfl⟩
theorem eL_law_112 : vD cL_law 112 (.iload 4) 2 114 := ⟨by decide +kernel, rfl⟩
theorem eL_law_114 : vD cL_law 114 (.iconst 2) 1 115 := ⟨by decide +kernel, rfl⟩
theorem eL_law_115 : vD cL_law 115 .iadd 1 116 := ⟨by decide +kernel, rfl⟩
theorem eL_law_116 : vD cL_law 116 .iaload 1 117 := ⟨by decide +kernel, rfl⟩
theorem eL_law_117 : vD cL_law 117 (.aload_n 0) 1 118 := ⟨by decide +kernel, rfl⟩
theorem eL_law_118 : vD cL_law 118 (.iload 4) 2 120 := ⟨by decide +kernel, rfl⟩
theorem eL_law_120 : vD cL_law 120 (.iconst 3) 1 121 := ⟨by decide +kernel, rfl⟩
theorem eL_law_121 : vD cL_law 121 .iadd 1 122 := ⟨by decide +kernel, rfl⟩
theorem eL_law_122 : vD cL_law 122 .iaload 1 123 := ⟨by decide +kernel, rfl⟩
theorem eL_law_123 : vD cL_law 123 (.aload_n 0) 1 124 := ⟨by decide +kernel, rfl⟩
theorem eL_law_124 : vD cL_law 124 (.iload 4) 2 126 := ⟨by decide +kernel, rfl⟩
theorem eL_law_126 : vD cL_law 126 (.iconst 4) 1 127 := ⟨by decide +kernel, rfl⟩
theorem eL_law_127 : vD cL_law 127 .iadd 1 128 := ⟨by decide +kernel, rfl⟩
theorem eL_law_128 : vD cL_law 128 .iaload 1 129 := ⟨by decide +kernel, rfl⟩
theorem eL_law_129 : vD cL_law 129 (.aload_n 0) 1 130 := ⟨by decide +kernel, rfl⟩
theorem eL_law_130 : vD cL_law 130 (.iload 4) 2 132 := ⟨by decide +kernel, rfl⟩
theorem eL_law_132 : vD cL_law 132 (.iconst 5) 1 133 := ⟨by decide +kernel, rfl⟩
theorem eL_law_133 : vD cL_law 133 .iadd 1 134 := ⟨by decide +kernel, rfl⟩
theorem eL_law_134 : vD cL_law 134 .iaload 1 135 := ⟨by decide +kernel, rfl⟩
theorem eL_law_135 : vD cL_law 135 (.aload_n 3) 1 136 := ⟨by decide +kernel, rfl⟩
theorem eL_law_136 : vD cL_law 136 (.invokestatic 63) 3 139 := ⟨by decide +kernel, rfl⟩
theorem eL_law_139 : vD cL_law 139 (.istore 5) 2 141 := ⟨by decide +kernel, rfl⟩
theorem eL_law_141 : vD cL_law 141 (.aload_n 2) 1 142 := ⟨by decide +kernel, rfl⟩
theorem eL_law_142 : vD cL_law 142 (.aload_n 0) 1 143 := ⟨by decide +kernel, rfl⟩
theorem eL_law_143 : vD cL_law 143 (.iload 4) 2 145 := ⟨by decide +kernel, rfl⟩
theorem eL_law_145 : vD cL_law 145 (.iconst 1) 1 146 := ⟨by decide +kernel, rfl⟩
theorem eL_law_146 : vD cL_law 146 .iadd 1 147 := ⟨by decide +kernel, rfl⟩
theorem eL_law_147 : vD cL_law 147 .iaload 1 148 := ⟨by decide +kernel, rfl⟩
theorem eL_law_148 : vD cL_law 148 (.aload_n 0) 1 149 := ⟨by decide +kernel, rfl⟩
theorem eL_law_149 : vD cL_law 149 (.iload 4) 2 151 := ⟨by decide +kernel, rfl⟩
theorem eL_law_151 : vD cL_law 151 (.iconst 2) 1 152 := ⟨by decide +kernel, rfl⟩
theorem eL_law_152 : vD cL_law 152 .iadd 1 153 := ⟨by decide +kernel, rfl⟩
theorem eL_law_153 : vD cL_law 153 .iaload 1 154 := ⟨by decide +kernel, rfl⟩
theorem eL_law_154 : vD cL_law 154 (.aload_n 0) 1 155 := ⟨by decide +kernel, rfl⟩
theorem eL_law_155 : vD cL_law 155 (.iload 4) 2 157 := ⟨by decide +kernel, rfl⟩
theorem eL_law_157 : vD cL_law 157 (.iconst 3) 1 158 := ⟨by decide +kernel, rfl⟩
theorem eL_law_158 : vD cL_law 158 .iadd 1 159 := ⟨by decide +kernel, rfl⟩
theorem eL_law_159 : vD cL_law 159 .iaload 1 160 := ⟨by decide +kernel, rfl⟩
theorem eL_law_160 : vD cL_law 160 (.aload_n 0) 1 161 := ⟨by decide +kernel, rfl⟩
theorem eL_law_161 : vD cL_law 161 (.iload 4) 2 163 := ⟨by decide +kernel, rfl⟩
theorem eL_law_163 : vD cL_law 163 (.iconst 4) 1 164 := ⟨by decide +kernel, rfl⟩
theorem eL_law_164 : vD cL_law 164 .iadd 1 165 := ⟨by decide +kernel, rfl⟩
theorem eL_law_165 : vD cL_law 165 .iaload 1 166 := ⟨by decide +kernel, rfl⟩
theorem eL_law_166 : vD cL_law 166 (.aload_n 0) 1 167 := ⟨by decide +kernel, rfl⟩
theorem eL_law_167 : vD cL_law 167 (.iload 4) 2 169 := ⟨by decide +kernel, rfl⟩
theorem eL_law_169 : vD cL_law 169 (.iconst 5) 1 170 := ⟨by decide +kernel, rfl⟩
theorem eL_law_170 : vD cL_law 170 .iadd 1 171 := ⟨by decide +kernel, rfl⟩
theorem eL_law_171 : vD cL_law 171 .iaload 1 172 := ⟨by decide +kernel, rfl⟩
theorem eL_law_172 : vD cL_law 172 (.invokevirtual 68) 3 175 := ⟨by decide +kernel, rfl⟩
theorem eL_law_175 : vD cL_law 175 (.istore 6) 2 177 := ⟨by decide +kernel, rfl⟩
theorem eL_law_177 : vD cL_law 177 (.aload_n 2) 1 178 := ⟨by decide +kernel, rfl⟩
theorem eL_law_178 : vD cL_law 178 (.invokevirtual 69) 3 181 := ⟨by decide +kernel, rfl⟩
theorem eL_law_181 : vD cL_law 181 (.iload 5) 2 183 := ⟨by decide +kernel, rfl⟩
theorem eL_law_183 : vD cL_law 183 (.if_icmp .eq 5) 3 186 := ⟨by decide +kernel, rfl⟩
theorem eL_law_186 : vD cL_law 186 (.iconst 0) 1 187 := ⟨by decide +kernel, rfl⟩
theorem eL_law_187 : vD cL_law 187 .ireturn 1 188 := ⟨by decide +kernel, rfl⟩
theorem eL_law_188 : vD cL_law 188 (.iload 5) 2 190 := ⟨by decide +kernel, rfl⟩
theorem eL_law_190 : vD cL_law 190 (.ifCond .ne 15) 3 193 := ⟨by decide +kernel, rfl⟩
theorem eL_law_193 : vD cL_law 193 (.aload_n 3) 1 194 := ⟨by decide +kernel, rfl⟩
theorem eL_law_194 : vD cL_law 194 (.iconst 0) 1 195 := ⟨by decide +kernel, rfl⟩
theorem eL_law_195 : vD cL_law 195 .laload 1 196 := ⟨by decide +kernel, rfl⟩
theorem eL_law_196 : vD cL_law 196 (.iload 6) 2 198 := ⟨by decide +kernel, rfl⟩
theorem eL_law_198 : vD cL_law 198 .i2l 1 199 := ⟨by decide +kernel, rfl⟩
theorem eL_law_199 : vD cL_law 199 .lcmp 1 200 := ⟨by decide +kernel, rfl⟩
theorem eL_law_200 : vD cL_law 200 (.ifCond .eq 5) 3 203 := ⟨by decide +kernel, rfl⟩
theorem eL_law_203 : vD cL_law 203 (.iconst 0) 1 204 := ⟨by decide +kernel, rfl⟩
theorem eL_law_204 : vD cL_law 204 .ireturn 1 205 := ⟨by decide +kernel, rfl⟩
theorem eL_law_205 : vD cL_law 205 (.goto 788) 3 208 := ⟨by decide +kernel, rfl⟩
theorem eL_law_208 : vD cL_law 208 (.aload_n 1) 1 209 := ⟨by decide +kernel, rfl⟩
theorem eL_law_209 : vD cL_law 209 (.aload_n 0) 1 210 := ⟨by decide +kernel, rfl⟩
theorem eL_law_210 : vD cL_law 210 (.iload 4) 2 212 := ⟨by decide +kernel, rfl⟩
theorem eL_law_212 : vD cL_law 212 (.iconst 1) 1 213 := ⟨by decide +kernel, rfl⟩
theorem eL_law_213 : vD cL_law 213 .iadd 1 214 := ⟨by decide +kernel, rfl⟩
theorem eL_law_214 : vD cL_law 214 .iaload 1 215 := ⟨by decide +kernel, rfl⟩
theorem eL_law_215 : vD cL_law 215 (.aload_n 0) 1 216 := ⟨by decide +kernel, rfl⟩
theorem eL_law_216 : vD cL_law 216 (.iload 4) 2 218 := ⟨by decide +kernel, rfl⟩
theorem eL_law_218 : vD cL_law 218 (.iconst 2) 1 219 := ⟨by decide +kernel, rfl⟩
theorem eL_law_219 : vD cL_law 219 .iadd 1 220 := ⟨by decide +kernel, rfl⟩
theorem eL_law_220 : vD cL_law 220 .iaload 1 221 := ⟨by decide +kernel, rfl⟩
theorem eL_law_221 : vD cL_law 221 (.aload_n 3) 1 222 := ⟨by decide +kernel, rfl⟩
theorem eL_law_222 : vD cL_law 222 (.invokestatic 73) 3 225 := ⟨by decide +kernel, rfl⟩
theorem eL_law_225 : vD cL_law 225 (.istore 5) 2 227 := ⟨by decide +kernel, rfl⟩
theorem eL_law_227 : vD cL_law 227 (.aload_n 2) 1 228 := ⟨by decide +kernel, rfl⟩
theorem eL_law_228 : vD cL_law 228 (.aload_n 0) 1 229 := ⟨by decide +kernel, rfl⟩
theorem eL_law_229 : vD cL_law 229 (.iload 4) 2 231 := ⟨by decide +kernel, rfl⟩
theorem eL_law_231 : vD cL_law 231 (.iconst 1) 1 232 := ⟨by decide +kernel, rfl⟩
theorem eL_law_232 : vD cL_law 232 .iadd 1 233 := ⟨by decide +kernel, rfl⟩
theorem eL_law_233 : vD cL_law 233 .iaload 1 234 := ⟨by decide +kernel, rfl⟩
theorem eL_law_234 : vD cL_law 234 (.aload_n 0) 1 235 := ⟨by decide +kernel, rfl⟩
theorem eL_law_235 : vD cL_law 235 (.iload 4) 2 237 := ⟨by decide +kernel, rfl⟩
theorem eL_law_237 : vD cL_law 237 (.iconst 2) 1 238 := ⟨by decide +kernel, rfl⟩
theorem eL_law_238 : vD cL_law 238 .iadd 1 239 := ⟨by decide +kernel, rfl⟩
theorem eL_law_239 : vD cL_law 239 .iaload 1 240 := ⟨by decide +kernel, rfl⟩
theorem eL_law_240 : vD cL_law 240 (.invokevirtual 76) 3 243 := ⟨by decide +kernel, rfl⟩
theorem eL_law_243 : vD cL_law 243 (.istore 6) 2 245 := ⟨by decide +kernel, rfl⟩
theorem eL_law_245 : vD cL_law 245 (.aload_n 2) 1 246 := ⟨by decide +kernel, rfl⟩
theorem eL_law_246 : vD cL_law 246 (.invokevirtual 69) 3 249 := ⟨by decide +kernel, rfl⟩
theorem eL_law_249 : vD cL_law 249 (.iload 5) 2 251 := ⟨by decide +kernel, rfl⟩
theorem eL_law_251 : vD cL_law 251 (.if_icmp .eq 5) 3 254 := ⟨by decide +kernel, rfl⟩
theorem eL_law_254 : vD cL_law 254 (.iconst 0) 1 255 := ⟨by decide +kernel, rfl⟩
theorem eL_law_255 : vD cL_law 255 .ireturn 1 256 := ⟨by decide +kernel, rfl⟩
theorem eL_law_256 : vD cL_law 256 (.iload 5) 2 258 := ⟨by decide +kernel, rfl⟩
theorem eL_law_258 : vD cL_law 258 (.ifCond .ne 15) 3 261 := ⟨by decide +kernel, rfl⟩
theorem eL_law_261 : vD cL_law 261 (.aload_n 3) 1 262 := ⟨by decide +kernel, rfl⟩
theorem eL_law_262 : vD cL_law 262 (.iconst 0) 1 263 := ⟨by decide +kernel, rfl⟩
theorem eL_law_263 : vD cL_law 263 .laload 1 264 := ⟨by decide +kernel, rfl⟩
theorem eL_law_264 : vD cL_law 264 (.iload 6) 2 266 := ⟨by decide +kernel, rfl⟩
theorem eL_law_266 : vD cL_law 266 .i2l 1 267 := ⟨by decide +kernel, rfl⟩
theorem eL_law_267 : vD cL_law 267 .lcmp 1 268 := ⟨by decide +kernel, rfl⟩
theorem eL_law_268 : vD cL_law 268 (.ifCond .eq 5) 3 271 := ⟨by decide +kernel, rfl⟩
theorem eL_law_271 : vD cL_law 271 (.iconst 0) 1 272 := ⟨by decide +kernel, rfl⟩
theorem eL_law_272 : vD cL_law 272 .ireturn 1 273 := ⟨by decide +kernel, rfl⟩
theorem eL_law_273 : vD cL_law 273 (.goto 720) 3 276 := ⟨by decide +kernel, rfl⟩
theorem eL_law_276 : vD cL_law 276 (.aload_n 1) 1 277 := ⟨by decide +kernel, rfl⟩
theorem eL_law_277 : vD cL_law 277 (.aload_n 0) 1 278 := ⟨by decide +kernel, rfl⟩
theorem eL_law_278 : vD cL_law 278 (.iload 4) 2 280 := ⟨by decide +kernel, rfl⟩
theorem eL_law_280 : vD cL_law 280 (.iconst 1) 1 281 := ⟨by decide +kernel, rfl⟩
theorem eL_law_281 : vD cL_law 281 .iadd 1 282 := ⟨by decide +kernel, rfl⟩
theorem eL_law_282 : vD cL_law 282 .iaload 1 283 := ⟨by decide +kernel, rfl⟩
theorem eL_law_283 : vD cL_law 283 (.aload_n 0) 1 284 := ⟨by decide +kernel, rfl⟩
theorem eL_law_284 : vD cL_law 284 (.iload 4) 2 286 := ⟨by decide +kernel, rfl⟩
theorem eL_law_286 : vD cL_law 286 (.iconst 2) 1 287 := ⟨by decide +kernel, rfl⟩
theorem eL_law_287 : vD cL_law 287 .iadd 1 288 := ⟨by decide +kernel, rfl⟩
theorem eL_law_288 : vD cL_law 288 .iaload 1 289 := ⟨by decide +kernel, rfl⟩
theorem eL_law_289 : vD cL_law 289 (.aload_n 3) 1 290 := ⟨by decide +kernel, rfl⟩
theorem eL_law_290 : vD cL_law 290 (.invokestatic 77) 3 293 := ⟨by decide +kernel, rfl⟩
theorem eL_law_293 : vD cL_law 293 (.istore 5) 2 295 := ⟨by decide +kernel, rfl⟩
theorem eL_law_295 : vD cL_law 295 (.aload_n 2) 1 296 := ⟨by decide +kernel, rfl⟩
theorem eL_law_296 : vD cL_law 296 (.aload_n 0) 1 297 := ⟨by decide +kernel, rfl⟩
theorem eL_law_297 : vD cL_law 297 (.iload 4) 2 299 := ⟨by decide +kernel, rfl⟩
theorem eL_law_299 : vD cL_law 299 (.iconst 1) 1 300 := ⟨by decide +kernel, rfl⟩
theorem eL_law_300 : vD cL_law 300 .iadd 1 301 := ⟨by decide +kernel, rfl⟩
theorem eL_law_301 : vD cL_law 301 .iaload 1 302 := ⟨by decide +kernel, rfl⟩
theorem eL_law_302 : vD cL_law 302 (.aload_n 0) 1 303 := ⟨by decide +kernel, rfl⟩
theorem eL_law_303 : vD cL_law 303 (.iload 4) 2 305 := ⟨by decide +kernel, rfl⟩
theorem eL_law_305 : vD cL_law 305 (.iconst 2) 1 306 := ⟨by decide +kernel, rfl⟩
theorem eL_law_306 : vD cL_law 306 .iadd 1 307 := ⟨by decide +kernel, rfl⟩
theorem eL_law_307 : vD cL_law 307 .iaload 1 308 := ⟨by decide +kernel, rfl⟩
theorem eL_law_308 : vD cL_law 308 (.invokevirtual 79) 3 311 := ⟨by decide +kernel, rfl⟩
theorem eL_law_311 : vD cL_law 311 (.istore 6) 2 313 := ⟨by decide +kernel, rfl⟩
theorem eL_law_313 : vD cL_law 313 (.aload_n 2) 1 314 := ⟨by decide +kernel, rfl⟩
theorem eL_law_314 : vD cL_law 314 (.invokevirtual 69) 3 317 := ⟨by decide +kernel, rfl⟩
theorem eL_law_317 : vD cL_law 317 (.iload 5) 2 319 := ⟨by decide +kernel, rfl⟩
theorem eL_law_319 : vD cL_law 319 (.if_icmp .eq 5) 3 322 := ⟨by decide +kernel, rfl⟩
theorem eL_law_322 : vD cL_law 322 (.iconst 0) 1 323 := ⟨by decide +kernel, rfl⟩
theorem eL_law_323 : vD cL_law 323 .ireturn 1 324 := ⟨by decide +kernel, rfl⟩
theorem eL_law_324 : vD cL_law 324 (.iload 5) 2 326 := ⟨by decide +kernel, rfl⟩
theorem eL_law_326 : vD cL_law 326 (.ifCond .ne 15) 3 329 := ⟨by decide +kernel, rfl⟩
theorem eL_law_329 : vD cL_law 329 (.aload_n 3) 1 330 := ⟨by decide +kernel, rfl⟩
theorem eL_law_330 : vD cL_law 330 (.iconst 0) 1 331 := ⟨by decide +kernel, rfl⟩
theorem eL_law_331 : vD cL_law 331 .laload 1 332 := ⟨by decide +kernel, rfl⟩
theorem eL_law_332 : vD cL_law 332 (.iload 6) 2 334 := ⟨by decide +kernel, rfl⟩
theorem eL_law_334 : vD cL_law 334 .i2l 1 335 := ⟨by decide +kernel, rfl⟩
theorem eL_law_335 : vD cL_law 335 .lcmp 1 336 := ⟨by decide +kernel, rfl⟩
theorem eL_law_336 : vD cL_law 336 (.ifCond .eq 5) 3 339 := ⟨by decide +kernel, rfl⟩
theorem eL_law_339 : vD cL_law 339 (.iconst 0) 1 340 := ⟨by decide +kernel, rfl⟩
theorem eL_law_340 : vD cL_law 340 .ireturn 1 341 := ⟨by decide +kernel, rfl⟩
theorem eL_law_341 : vD cL_law 341 (.goto 652) 3 344 := ⟨by decide +kernel, rfl⟩
theorem eL_law_344 : vD cL_law 344 (.aload_n 1) 1 345 := ⟨by decide +kernel, rfl⟩
theorem eL_law_345 : vD cL_law 345 (.aload_n 0) 1 346 := ⟨by decide +kernel, rfl⟩
theorem eL_law_346 : vD cL_law 346 (.iload 4) 2 348 := ⟨by decide +kernel, rfl⟩
theorem eL_law_348 : vD cL_law 348 (.iconst 1) 1 349 := ⟨by decide +kernel, rfl⟩
theorem eL_law_349 : vD cL_law 349 .iadd 1 350 := ⟨by decide +kernel, rfl⟩
theorem eL_law_350 : vD cL_law 350 .iaload 1 351 := ⟨by decide +kernel, rfl⟩
theorem eL_law_351 : vD cL_law 351 (.aload_n 0) 1 352 := ⟨by decide +kernel, rfl⟩
theorem eL_law_352 : vD cL_law 352 (.iload 4) 2 354 := ⟨by decide +kernel, rfl⟩
theorem eL_law_354 : vD cL_law 354 (.iconst 2) 1 355 := ⟨by decide +kernel, rfl⟩
theorem eL_law_355 : vD cL_law 355 .iadd 1 356 := ⟨by decide +kernel, rfl⟩
theorem eL_law_356 : vD cL_law 356 .iaload 1 357 := ⟨by decide +kernel, rfl⟩
theorem eL_law_357 : vD cL_law 357 (.aload_n 3) 1 358 := ⟨by decide +kernel, rfl⟩
theorem eL_law_358 : vD cL_law 358 (.invokestatic 80) 3 361 := ⟨by decide +kernel, rfl⟩
theorem eL_law_361 : vD cL_law 361 (.istore 5) 2 363 := ⟨by decide +kernel, rfl⟩
theorem eL_law_363 : vD cL_law 363 (.aload_n 2) 1 364 := ⟨by decide +kernel, rfl⟩
theorem eL_law_364 : vD cL_law 364 (.aload_n 0) 1 365 := ⟨by decide +kernel, rfl⟩
theorem eL_law_365 : vD cL_law 365 (.iload 4) 2 367 := ⟨by decide +kernel, rfl⟩
theorem eL_law_367 : vD cL_law 367 (.iconst 1) 1 368 := ⟨by decide +kernel, rfl⟩
theorem eL_law_368 : vD cL_law 368 .iadd 1 369 := ⟨by decide +kernel, rfl⟩
theorem eL_law_369 : vD cL_law 369 .iaload 1 370 := ⟨by decide +kernel, rfl⟩
theorem eL_law_370 : vD cL_law 370 (.aload_n 0) 1 371 := ⟨by decide +kernel, rfl⟩
theorem eL_law_371 : vD cL_law 371 (.iload 4) 2 373 := ⟨by decide +kernel, rfl⟩
theorem eL_law_373 : vD cL_law 373 (.iconst 2) 1 374 := ⟨by decide +kernel, rfl⟩
theorem eL_law_374 : vD cL_law 374 .iadd 1 375 := ⟨by decide +kernel, rfl⟩
theorem eL_law_375 : vD cL_law 375 .iaload 1 376 := ⟨by decide +kernel, rfl⟩
theorem eL_law_376 : vD cL_law 376 (.invokevirtual 82) 3 379 := ⟨by decide +kernel, rfl⟩
theorem eL_law_379 : vD cL_law 379 (.istore 6) 2 381 := ⟨by decide +kernel, rfl⟩
theorem eL_law_381 : vD cL_law 381 (.aload_n 2) 1 382 := ⟨by decide +kernel, rfl⟩
theorem eL_law_382 : vD cL_law 382 (.invokevirtual 69) 3 385 := ⟨by decide +kernel, rfl⟩
theorem eL_law_385 : vD cL_law 385 (.iload 5) 2 387 := ⟨by decide +kernel, rfl⟩
theorem eL_law_387 : vD cL_law 387 (.if_icmp .eq 5) 3 390 := ⟨by decide +kernel, rfl⟩
theorem eL_law_390 : vD cL_law 390 (.iconst 0) 1 391 := ⟨by decide +kernel, rfl⟩
theorem eL_law_391 : vD cL_law 391 .ireturn 1 392 := ⟨by decide +kernel, rfl⟩
theorem eL_law_392 : vD cL_law 392 (.iload 5) 2 394 := ⟨by decide +kernel, rfl⟩
theorem eL_law_394 : vD cL_law 394 (.ifCond .ne 15) 3 397 := ⟨by decide +kernel, rfl⟩
theorem eL_law_397 : vD cL_law 397 (.aload_n 3) 1 398 := ⟨by decide +kernel, rfl⟩
theorem eL_law_398 : vD cL_law 398 (.iconst 0) 1 399 := ⟨by decide +kernel, rfl⟩
theorem eL_law_399 : vD cL_law 399 .laload 1 400 := ⟨by decide +kernel, rfl⟩
theorem eL_law_400 : vD cL_law 400 (.iload 6) 2 402 := ⟨by decide +kernel, rfl⟩
theorem eL_law_402 : vD cL_law 402 .i2l 1 403 := ⟨by decide +kernel, rfl⟩
theorem eL_law_403 : vD cL_law 403 .lcmp 1 404 := ⟨by decide +kernel, rfl⟩
theorem eL_law_404 : vD cL_law 404 (.ifCond .eq 5) 3 407 := ⟨by decide +kernel, rfl⟩
theorem eL_law_407 : vD cL_law 407 (.iconst 0) 1 408 := ⟨by decide +kernel, rfl⟩
theorem eL_law_408 : vD cL_law 408 .ireturn 1 409 := ⟨by decide +kernel, rfl⟩
theorem eL_law_409 : vD cL_law 409 (.goto 584) 3 412 := ⟨by decide +kernel, rfl⟩
theorem eL_law_412 : vD cL_law 412 (.aload_n 1) 1 413 := ⟨by decide +kernel, rfl⟩
theorem eL_law_413 : vD cL_law 413 (.aload_n 0) 1 414 := ⟨by decide +kernel, rfl⟩
theorem eL_law_414 : vD cL_law 414 (.iload 4) 2 416 := ⟨by decide +kernel, rfl⟩
theorem eL_law_416 : vD cL_law 416 (.iconst 1) 1 417 := ⟨by decide +kernel, rfl⟩
theorem eL_law_417 : vD cL_law 417 .iadd 1 418 := ⟨by decide +kernel, rfl⟩
theorem eL_law_418 : vD cL_law 418 .iaload 1 419 := ⟨by decide +kernel, rfl⟩
theorem eL_law_419 : vD cL_law 419 (.aload_n 0) 1 420 := ⟨by decide +kernel, rfl⟩
theorem eL_law_420 : vD cL_law 420 (.iload 4) 2 422 := ⟨by decide +kernel, rfl⟩
theorem eL_law_422 : vD cL_law 422 (.iconst 2) 1 423 := ⟨by decide +kernel, rfl⟩
theorem eL_law_423 : vD cL_law 423 .iadd 1 424 := ⟨by decide +kernel, rfl⟩
theorem eL_law_424 : vD cL_law 424 .iaload 1 425 := ⟨by decide +kernel, rfl⟩
theorem eL_law_425 : vD cL_law 425 (.aload_n 0) 1 426 := ⟨by decide +kernel, rfl⟩
theorem eL_law_426 : vD cL_law 426 (.iload 4) 2 428 := ⟨by decide +kernel, rfl⟩
theorem eL_law_428 : vD cL_law 428 (.iconst 3) 1 429 := ⟨by decide +kernel, rfl⟩
theorem eL_law_429 : vD cL_law 429 .iadd 1 430 := ⟨by decide +kernel, rfl⟩
theorem eL_law_430 : vD cL_law 430 .iaload 1 431 := ⟨by decide +kernel, rfl⟩
theorem eL_law_431 : vD cL_law 431 (.aload_n 3) 1 432 := ⟨by decide +kernel, rfl⟩
theorem eL_law_432 : vD cL_law 432 (.invokestatic 83) 3 435 := ⟨by decide +kernel, rfl⟩
theorem eL_law_435 : vD cL_law 435 (.istore 5) 2 437 := ⟨by decide +kernel, rfl⟩
theorem eL_law_437 : vD cL_law 437 (.aload_n 2) 1 438 := ⟨by decide +kernel, rfl⟩
theorem eL_law_438 : vD cL_law 438 (.aload_n 0) 1 439 := ⟨by decide +kernel, rfl⟩
theorem eL_law_439 : vD cL_law 439 (.iload 4) 2 441 := ⟨by decide +kernel, rfl⟩
theorem eL_law_441 : vD cL_law 441 (.iconst 1) 1 442 := ⟨by decide +kernel, rfl⟩
theorem eL_law_442 : vD cL_law 442 .iadd 1 443 := ⟨by decide +kernel, rfl⟩
theorem eL_law_443 : vD cL_law 443 .iaload 1 444 := ⟨by decide +kernel, rfl⟩
theorem eL_law_444 : vD cL_law 444 (.aload_n 0) 1 445 := ⟨by decide +kernel, rfl⟩
theorem eL_law_445 : vD cL_law 445 (.iload 4) 2 447 := ⟨by decide +kernel, rfl⟩
theorem eL_law_447 : vD cL_law 447 (.iconst 2) 1 448 := ⟨by decide +kernel, rfl⟩
theorem eL_law_448 : vD cL_law 448 .iadd 1 449 := ⟨by decide +kernel, rfl⟩
theorem eL_law_449 : vD cL_law 449 .iaload 1 450 := ⟨by decide +kernel, rfl⟩
theorem eL_law_450 : vD cL_law 450 (.aload_n 0) 1 451 := ⟨by decide +kernel, rfl⟩
theorem eL_law_451 : vD cL_law 451 (.iload 4) 2 453 := ⟨by decide +kernel, rfl⟩
theorem eL_law_453 : vD cL_law 453 (.iconst 3) 1 454 := ⟨by decide +kernel, rfl⟩
theorem eL_law_454 : vD cL_law 454 .iadd 1 455 := ⟨by decide +kernel, rfl⟩
theorem eL_law_455 : vD cL_law 455 .iaload 1 456 := ⟨by decide +kernel, rfl⟩
theorem eL_law_456 : vD cL_law 456 (.invokevirtual 86) 3 459 := ⟨by decide +kernel, rfl⟩
theorem eL_law_459 : vD cL_law 459 (.istore 6) 2 461 := ⟨by decide +kernel, rfl⟩
theorem eL_law_461 : vD cL_law 461 (.aload_n 2) 1 462 := ⟨by decide +kernel, rfl⟩
theorem eL_law_462 : vD cL_law 462 (.invokevirtual 69) 3 465 := ⟨by decide +kernel, rfl⟩
theorem eL_law_465 : vD cL_law 465 (.iload 5) 2 467 := ⟨by decide +kernel, rfl⟩
theorem eL_law_467 : vD cL_law 467 (.if_icmp .eq 5) 3 470 := ⟨by decide +kernel, rfl⟩
theorem eL_law_470 : vD cL_law 470 (.iconst 0) 1 471 := ⟨by decide +kernel, rfl⟩
theorem eL_law_471 : vD cL_law 471 .ireturn 1 472 := ⟨by decide +kernel, rfl⟩
theorem eL_law_472 : vD cL_law 472 (.iload 5) 2 474 := ⟨by decide +kernel, rfl⟩
theorem eL_law_474 : vD cL_law 474 (.ifCond .ne 15) 3 477 := ⟨by decide +kernel, rfl⟩
theorem eL_law_477 : vD cL_law 477 (.aload_n 3) 1 478 := ⟨by decide +kernel, rfl⟩
theorem eL_law_478 : vD cL_law 478 (.iconst 0) 1 479 := ⟨by decide +kernel, rfl⟩
theorem eL_law_479 : vD cL_law 479 .laload 1 480 := ⟨by decide +kernel, rfl⟩
theorem eL_law_480 : vD cL_law 480 (.iload 6) 2 482 := ⟨by decide +kernel, rfl⟩
theorem eL_law_482 : vD cL_law 482 .i2l 1 483 := ⟨by decide +kernel, rfl⟩
theorem eL_law_483 : vD cL_law 483 .lcmp 1 484 := ⟨by decide +kernel, rfl⟩
theorem eL_law_484 : vD cL_law 484 (.ifCond .eq 5) 3 487 := ⟨by decide +kernel, rfl⟩
theorem eL_law_487 : vD cL_law 487 (.iconst 0) 1 488 := ⟨by decide +kernel, rfl⟩
theorem eL_law_488 : vD cL_law 488 .ireturn 1 489 := ⟨by decide +kernel, rfl⟩
theorem eL_law_489 : vD cL_law 489 (.goto 504) 3 492 := ⟨by decide +kernel, rfl⟩
theorem eL_law_492 : vD cL_law 492 (.aload_n 1) 1 493 := ⟨by decide +kernel, rfl⟩
theorem eL_law_493 : vD cL_law 493 (.aload_n 0) 1 494 := ⟨by decide +kernel, rfl⟩
theorem eL_law_494 : vD cL_law 494 (.iload 4) 2 496 := ⟨by decide +kernel, rfl⟩
theorem eL_law_496 : vD cL_law 496 (.iconst 1) 1 497 := ⟨by decide +kernel, rfl⟩
theorem eL_law_497 : vD cL_law 497 .iadd 1 498 := ⟨by decide +kernel, rfl⟩
theorem eL_law_498 : vD cL_law 498 .iaload 1 499 := ⟨by decide +kernel, rfl⟩
theorem eL_law_499 : vD cL_law 499 (.aload_n 3) 1 500 := ⟨by decide +kernel, rfl⟩
theorem eL_law_500 : vD cL_law 500 (.invokestatic 87) 3 503 := ⟨by decide +kernel, rfl⟩
theorem eL_law_503 : vD cL_law 503 (.istore 5) 2 505 := ⟨by decide +kernel, rfl⟩
theorem eL_law_505 : vD cL_law 505 (.aload_n 2) 1 506 := ⟨by decide +kernel, rfl⟩
theorem eL_law_506 : vD cL_law 506 (.aload_n 0) 1 507 := ⟨by decide +kernel, rfl⟩
theorem eL_law_507 : vD cL_law 507 (.iload 4) 2 509 := ⟨by decide +kernel, rfl⟩
theorem eL_law_509 : vD cL_law 509 (.iconst 1) 1 510 := ⟨by decide +kernel, rfl⟩
theorem eL_law_510 : vD cL_law 510 .iadd 1 511 := ⟨by decide +kernel, rfl⟩
theorem eL_law_511 : vD cL_law 511 .iaload 1 512 := ⟨by decide +kernel, rfl⟩
theorem eL_law_512 : vD cL_law 512 (.invokevirtual 90) 3 515 := ⟨by decide +kernel, rfl⟩
theorem eL_law_515 : vD cL_law 515 (.istore 6) 2 517 := ⟨by decide +kernel, rfl⟩
theorem eL_law_517 : vD cL_law 517 (.aload_n 2) 1 518 := ⟨by decide +kernel, rfl⟩
theorem eL_law_518 : vD cL_law 518 (.invokevirtual 69) 3 521 := ⟨by decide +kernel, rfl⟩
theorem eL_law_521 : vD cL_law 521 (.iload 5) 2 523 := ⟨by decide +kernel, rfl⟩
theorem eL_law_523 : vD cL_law 523 (.if_icmp .eq 5) 3 526 := ⟨by decide +kernel, rfl⟩
theorem eL_law_526 : vD cL_law 526 (.iconst 0) 1 527 := ⟨by decide +kernel, rfl⟩
theorem eL_law_527 : vD cL_law 527 .ireturn 1 528 := ⟨by decide +kernel, rfl⟩
theorem eL_law_528 : vD cL_law 528 (.iload 5) 2 530 := ⟨by decide +kernel, rfl⟩
theorem eL_law_530 : vD cL_law 530 (.ifCond .ne 15) 3 533 := ⟨by decide +kernel, rfl⟩
theorem eL_law_533 : vD cL_law 533 (.aload_n 3) 1 534 := ⟨by decide +kernel, rfl⟩
theorem eL_law_534 : vD cL_law 534 (.iconst 0) 1 535 := ⟨by decide +kernel, rfl⟩
theorem eL_law_535 : vD cL_law 535 .laload 1 536 := ⟨by decide +kernel, rfl⟩
theorem eL_law_536 : vD cL_law 536 (.iload 6) 2 538 := ⟨by decide +kernel, rfl⟩
theorem eL_law_538 : vD cL_law 538 .i2l 1 539 := ⟨by decide +kernel, rfl⟩
theorem eL_law_539 : vD cL_law 539 .lcmp 1 540 := ⟨by decide +kernel, rfl⟩
theorem eL_law_540 : vD cL_law 540 (.ifCond .eq 5) 3 543 := ⟨by decide +kernel, rfl⟩
theorem eL_law_543 : vD cL_law 543 (.iconst 0) 1 544 := ⟨by decide +kernel, rfl⟩
theorem eL_law_544 : vD cL_law 544 .ireturn 1 545 := ⟨by decide +kernel, rfl⟩
theorem eL_law_545 : vD cL_law 545 (.goto 448) 3 548 := ⟨by decide +kernel, rfl⟩
theorem eL_law_548 : vD cL_law 548 (.aload_n 1) 1 549 := ⟨by decide +kernel, rfl⟩
theorem eL_law_549 : vD cL_law 549 (.aload_n 0) 1 550 := ⟨by decide +kernel, rfl⟩
theorem eL_law_550 : vD cL_law 550 (.iload 4) 2 552 := ⟨by decide +kernel, rfl⟩
theorem eL_law_552 : vD cL_law 552 (.iconst 1) 1 553 := ⟨by decide +kernel, rfl⟩
theorem eL_law_553 : vD cL_law 553 .iadd 1 554 := ⟨by decide +kernel, rfl⟩
theorem eL_law_554 : vD cL_law 554 .iaload 1 555 := ⟨by decide +kernel, rfl⟩
theorem eL_law_555 : vD cL_law 555 (.aload_n 0) 1 556 := ⟨by decide +kernel, rfl⟩
theorem eL_law_556 : vD cL_law 556 (.iload 4) 2 558 := ⟨by decide +kernel, rfl⟩
theorem eL_law_558 : vD cL_law 558 (.iconst 2) 1 559 := ⟨by decide +kernel, rfl⟩
theorem eL_law_559 : vD cL_law 559 .iadd 1 560 := ⟨by decide +kernel, rfl⟩
theorem eL_law_560 : vD cL_law 560 .iaload 1 561 := ⟨by decide +kernel, rfl⟩
theorem eL_law_561 : vD cL_law 561 (.aload_n 3) 1 562 := ⟨by decide +kernel, rfl⟩
theorem eL_law_562 : vD cL_law 562 (.invokestatic 91) 3 565 := ⟨by decide +kernel, rfl⟩
theorem eL_law_565 : vD cL_law 565 (.istore 5) 2 567 := ⟨by decide +kernel, rfl⟩
theorem eL_law_567 : vD cL_law 567 (.aload_n 2) 1 568 := ⟨by decide +kernel, rfl⟩
theorem eL_law_568 : vD cL_law 568 (.aload_n 0) 1 569 := ⟨by decide +kernel, rfl⟩
theorem eL_law_569 : vD cL_law 569 (.iload 4) 2 571 := ⟨by decide +kernel, rfl⟩
theorem eL_law_571 : vD cL_law 571 (.iconst 1) 1 572 := ⟨by decide +kernel, rfl⟩
theorem eL_law_572 : vD cL_law 572 .iadd 1 573 := ⟨by decide +kernel, rfl⟩
theorem eL_law_573 : vD cL_law 573 .iaload 1 574 := ⟨by decide +kernel, rfl⟩
theorem eL_law_574 : vD cL_law 574 (.aload_n 0) 1 575 := ⟨by decide +kernel, rfl⟩
theorem eL_law_575 : vD cL_law 575 (.iload 4) 2 577 := ⟨by decide +kernel, rfl⟩
theorem eL_law_577 : vD cL_law 577 (.iconst 2) 1 578 := ⟨by decide +kernel, rfl⟩
theorem eL_law_578 : vD cL_law 578 .iadd 1 579 := ⟨by decide +kernel, rfl⟩
theorem eL_law_579 : vD cL_law 579 .iaload 1 580 := ⟨by decide +kernel, rfl⟩
theorem eL_law_580 : vD cL_law 580 (.invokevirtual 93) 3 583 := ⟨by decide +kernel, rfl⟩
theorem eL_law_583 : vD cL_law 583 (.lstore 6) 2 585 := ⟨by decide +kernel, rfl⟩
theorem eL_law_585 : vD cL_law 585 (.aload_n 2) 1 586 := ⟨by decide +kernel, rfl⟩
theorem eL_law_586 : vD cL_law 586 (.invokevirtual 69) 3 589 := ⟨by decide +kernel, rfl⟩
theorem eL_law_589 : vD cL_law 589 (.iload 5) 2 591 := ⟨by decide +kernel, rfl⟩
theorem eL_law_591 : vD cL_law 591 (.if_icmp .eq 5) 3 594 := ⟨by decide +kernel, rfl⟩
theorem eL_law_594 : vD cL_law 594 (.iconst 0) 1 595 := ⟨by decide +kernel, rfl⟩
theorem eL_law_595 : vD cL_law 595 .ireturn 1 596 := ⟨by decide +kernel, rfl⟩
theorem eL_law_596 : vD cL_law 596 (.iload 5) 2 598 := ⟨by decide +kernel, rfl⟩
theorem eL_law_598 : vD cL_law 598 (.ifCond .ne 14) 3 601 := ⟨by decide +kernel, rfl⟩
theorem eL_law_601 : vD cL_law 601 (.aload_n 3) 1 602 := ⟨by decide +kernel, rfl⟩
theorem eL_law_602 : vD cL_law 602 (.iconst 0) 1 603 := ⟨by decide +kernel, rfl⟩
theorem eL_law_603 : vD cL_law 603 .laload 1 604 := ⟨by decide +kernel, rfl⟩
theorem eL_law_604 : vD cL_law 604 (.lload 6) 2 606 := ⟨by decide +kernel, rfl⟩
theorem eL_law_606 : vD cL_law 606 .lcmp 1 607 := ⟨by decide +kernel, rfl⟩
theorem eL_law_607 : vD cL_law 607 (.ifCond .eq 5) 3 610 := ⟨by decide +kernel, rfl⟩
theorem eL_law_610 : vD cL_law 610 (.iconst 0) 1 611 := ⟨by decide +kernel, rfl⟩
theorem eL_law_611 : vD cL_law 611 .ireturn 1 612 := ⟨by decide +kernel, rfl⟩
theorem eL_law_612 : vD cL_law 612 (.goto 381) 3 615 := ⟨by decide +kernel, rfl⟩
theorem eL_law_615 : vD cL_law 615 (.aload_n 1) 1 616 := ⟨by decide +kernel, rfl⟩
theorem eL_law_616 : vD cL_law 616 (.aload_n 0) 1 617 := ⟨by decide +kernel, rfl⟩
theorem eL_law_617 : vD cL_law 617 (.iload 4) 2 619 := ⟨by decide +kernel, rfl⟩
theorem eL_law_619 : vD cL_law 619 (.iconst 1) 1 620 := ⟨by decide +kernel, rfl⟩
theorem eL_law_620 : vD cL_law 620 .iadd 1 621 := ⟨by decide +kernel, rfl⟩
theorem eL_law_621 : vD cL_law 621 .iaload 1 622 := ⟨by decide +kernel, rfl⟩
theorem eL_law_622 : vD cL_law 622 (.aload_n 0) 1 623 := ⟨by decide +kernel, rfl⟩
theorem eL_law_623 : vD cL_law 623 (.iload 4) 2 625 := ⟨by decide +kernel, rfl⟩
theorem eL_law_625 : vD cL_law 625 (.iconst 2) 1 626 := ⟨by decide +kernel, rfl⟩
theorem eL_law_626 : vD cL_law 626 .iadd 1 627 := ⟨by decide +kernel, rfl⟩
theorem eL_law_627 : vD cL_law 627 .iaload 1 628 := ⟨by decide +kernel, rfl⟩
theorem eL_law_628 : vD cL_law 628 (.aload_n 3) 1 629 := ⟨by decide +kernel, rfl⟩
theorem eL_law_629 : vD cL_law 629 (.invokestatic 94) 3 632 := ⟨by decide +kernel, rfl⟩
theorem eL_law_632 : vD cL_law 632 (.istore 5) 2 634 := ⟨by decide +kernel, rfl⟩
theorem eL_law_634 : vD cL_law 634 (.aload_n 2) 1 635 := ⟨by decide +kernel, rfl⟩
theorem eL_law_635 : vD cL_law 635 (.aload_n 0) 1 636 := ⟨by decide +kernel, rfl⟩
theorem eL_law_636 : vD cL_law 636 (.iload 4) 2 638 := ⟨by decide +kernel, rfl⟩
theorem eL_law_638 : vD cL_law 638 (.iconst 1) 1 639 := ⟨by decide +kernel, rfl⟩
theorem eL_law_639 : vD cL_law 639 .iadd 1 640 := ⟨by decide +kernel, rfl⟩
theorem eL_law_640 : vD cL_law 640 .iaload 1 641 := ⟨by decide +kernel, rfl⟩
theorem eL_law_641 : vD cL_law 641 (.aload_n 0) 1 642 := ⟨by decide +kernel, rfl⟩
theorem eL_law_642 : vD cL_law 642 (.iload 4) 2 644 := ⟨by decide +kernel, rfl⟩
theorem eL_law_644 : vD cL_law 644 (.iconst 2) 1 645 := ⟨by decide +kernel, rfl⟩
theorem eL_law_645 : vD cL_law 645 .iadd 1 646 := ⟨by decide +kernel, rfl⟩
theorem eL_law_646 : vD cL_law 646 .iaload 1 647 := ⟨by decide +kernel, rfl⟩
theorem eL_law_647 : vD cL_law 647 (.invokevirtual 96) 3 650 := ⟨by decide +kernel, rfl⟩
theorem eL_law_650 : vD cL_law 650 (.istore 6) 2 652 := ⟨by decide +kernel, rfl⟩
theorem eL_law_652 : vD cL_law 652 (.aload_n 2) 1 653 := ⟨by decide +kernel, rfl⟩
theorem eL_law_653 : vD cL_law 653 (.invokevirtual 69) 3 656 := ⟨by decide +kernel, rfl⟩
theorem eL_law_656 : vD cL_law 656 (.iload 5) 2 658 := ⟨by decide +kernel, rfl⟩
theorem eL_law_658 : vD cL_law 658 (.if_icmp .eq 5) 3 661 := ⟨by decide +kernel, rfl⟩
theorem eL_law_661 : vD cL_law 661 (.iconst 0) 1 662 := ⟨by decide +kernel, rfl⟩
theorem eL_law_662 : vD cL_law 662 .ireturn 1 663 := ⟨by decide +kernel, rfl⟩
theorem eL_law_663 : vD cL_law 663 (.iload 5) 2 665 := ⟨by decide +kernel, rfl⟩
theorem eL_law_665 : vD cL_law 665 (.ifCond .ne 22) 3 668 := ⟨by decide +kernel, rfl⟩
theorem eL_law_668 : vD cL_law 668 (.aload_n 3) 1 669 := ⟨by decide +kernel, rfl⟩
theorem eL_law_669 : vD cL_law 669 (.iconst 0) 1 670 := ⟨by decide +kernel, rfl⟩
theorem eL_law_670 : vD cL_law 670 .laload 1 671 := ⟨by decide +kernel, rfl⟩
theorem eL_law_671 : vD cL_law 671 (.iload 6) 2 673 := ⟨by decide +kernel, rfl⟩
theorem eL_law_673 : vD cL_law 673 (.ifCond .eq 7) 3 676 := ⟨by decide +kernel, rfl⟩
theorem eL_law_676 : vD cL_law 676 (.lconst 1) 1 677 := ⟨by decide +kernel, rfl⟩
theorem eL_law_677 : vD cL_law 677 (.goto 4) 3 680 := ⟨by decide +kernel, rfl⟩
theorem eL_law_680 : vD cL_law 680 (.lconst 0) 1 681 := ⟨by decide +kernel, rfl⟩
theorem eL_law_681 : vD cL_law 681 .lcmp 1 682 := ⟨by decide +kernel, rfl⟩
theorem eL_law_682 : vD cL_law 682 (.ifCond .eq 5) 3 685 := ⟨by decide +kernel, rfl⟩
theorem eL_law_685 : vD cL_law 685 (.iconst 0) 1 686 := ⟨by decide +kernel, rfl⟩
theorem eL_law_686 : vD cL_law 686 .ireturn 1 687 := ⟨by decide +kernel, rfl⟩
theorem eL_law_687 : vD cL_law 687 (.goto 306) 3 690 := ⟨by decide +kernel, rfl⟩
theorem eL_law_690 : vD cL_law 690 (.aload_n 1) 1 691 := ⟨by decide +kernel, rfl⟩
theorem eL_law_691 : vD cL_law 691 (.aload_n 0) 1 692 := ⟨by decide +kernel, rfl⟩
theorem eL_law_692 : vD cL_law 692 (.iload 4) 2 694 := ⟨by decide +kernel, rfl⟩
theorem eL_law_694 : vD cL_law 694 (.iconst 1) 1 695 := ⟨by decide +kernel, rfl⟩
theorem eL_law_695 : vD cL_law 695 .iadd 1 696 := ⟨by decide +kernel, rfl⟩
theorem eL_law_696 : vD cL_law 696 .iaload 1 697 := ⟨by decide +kernel, rfl⟩
theorem eL_law_697 : vD cL_law 697 (.aload_n 3) 1 698 := ⟨by decide +kernel, rfl⟩
theorem eL_law_698 : vD cL_law 698 (.invokestatic 97) 3 701 := ⟨by decide +kernel, rfl⟩
theorem eL_law_701 : vD cL_law 701 (.istore 5) 2 703 := ⟨by decide +kernel, rfl⟩
theorem eL_law_703 : vD cL_law 703 (.aload_n 2) 1 704 := ⟨by decide +kernel, rfl⟩
theorem eL_law_704 : vD cL_law 704 (.aload_n 0) 1 705 := ⟨by decide +kernel, rfl⟩
theorem eL_law_705 : vD cL_law 705 (.iload 4) 2 707 := ⟨by decide +kernel, rfl⟩
theorem eL_law_707 : vD cL_law 707 (.iconst 1) 1 708 := ⟨by decide +kernel, rfl⟩
theorem eL_law_708 : vD cL_law 708 .iadd 1 709 := ⟨by decide +kernel, rfl⟩
theorem eL_law_709 : vD cL_law 709 .iaload 1 710 := ⟨by decide +kernel, rfl⟩
theorem eL_law_710 : vD cL_law 710 (.invokevirtual 99) 3 713 := ⟨by decide +kernel, rfl⟩
theorem eL_law_713 : vD cL_law 713 (.istore 6) 2 715 := ⟨by decide +kernel, rfl⟩
theorem eL_law_715 : vD cL_law 715 (.aload_n 2) 1 716 := ⟨by decide +kernel, rfl⟩
theorem eL_law_716 : vD cL_law 716 (.invokevirtual 69) 3 719 := ⟨by decide +kernel, rfl⟩
theorem eL_law_719 : vD cL_law 719 (.iload 5) 2 721 := ⟨by decide +kernel, rfl⟩
theorem eL_law_721 : vD cL_law 721 (.if_icmp .eq 5) 3 724 := ⟨by decide +kernel, rfl⟩
theorem eL_law_724 : vD cL_law 724 (.iconst 0) 1 725 := ⟨by decide +kernel, rfl⟩
theorem eL_law_725 : vD cL_law 725 .ireturn 1 726 := ⟨by decide +kernel, rfl⟩
theorem eL_law_726 : vD cL_law 726 (.iload 5) 2 728 := ⟨by decide +kernel, rfl⟩
theorem eL_law_728 : vD cL_law 728 (.ifCond .ne 15) 3 731 := ⟨by decide +kernel, rfl⟩
theorem eL_law_731 : vD cL_law 731 (.aload_n 3) 1 732 := ⟨by decide +kernel, rfl⟩
theorem eL_law_732 : vD cL_law 732 (.iconst 0) 1 733 := ⟨by decide +kernel, rfl⟩
theorem eL_law_733 : vD cL_law 733 .laload 1 734 := ⟨by decide +kernel, rfl⟩
theorem eL_law_734 : vD cL_law 734 (.iload 6) 2 736 := ⟨by decide +kernel, rfl⟩
theorem eL_law_736 : vD cL_law 736 .i2l 1 737 := ⟨by decide +kernel, rfl⟩
theorem eL_law_737 : vD cL_law 737 .lcmp 1 738 := ⟨by decide +kernel, rfl⟩
theorem eL_law_738 : vD cL_law 738 (.ifCond .eq 5) 3 741 := ⟨by decide +kernel, rfl⟩
theorem eL_law_741 : vD cL_law 741 (.iconst 0) 1 742 := ⟨by decide +kernel, rfl⟩
theorem eL_law_742 : vD cL_law 742 .ireturn 1 743 := ⟨by decide +kernel, rfl⟩
theorem eL_law_743 : vD cL_law 743 (.goto 250) 3 746 := ⟨by decide +kernel, rfl⟩
theorem eL_law_746 : vD cL_law 746 (.aload_n 1) 1 747 := ⟨by decide +kernel, rfl⟩
theorem eL_law_747 : vD cL_law 747 (.aload_n 0) 1 748 := ⟨by decide +kernel, rfl⟩
theorem eL_law_748 : vD cL_law 748 (.iload 4) 2 750 := ⟨by decide +kernel, rfl⟩
theorem eL_law_750 : vD cL_law 750 (.iconst 1) 1 751 := ⟨by decide +kernel, rfl⟩
theorem eL_law_751 : vD cL_law 751 .iadd 1 752 := ⟨by decide +kernel, rfl⟩
theorem eL_law_752 : vD cL_law 752 .iaload 1 753 := ⟨by decide +kernel, rfl⟩
theorem eL_law_753 : vD cL_law 753 (.aload_n 0) 1 754 := ⟨by decide +kernel, rfl⟩
theorem eL_law_754 : vD cL_law 754 (.iload 4) 2 756 := ⟨by decide +kernel, rfl⟩
theorem eL_law_756 : vD cL_law 756 (.iconst 2) 1 757 := ⟨by decide +kernel, rfl⟩
theorem eL_law_757 : vD cL_law 757 .iadd 1 758 := ⟨by decide +kernel, rfl⟩
theorem eL_law_758 : vD cL_law 758 .iaload 1 759 := ⟨by decide +kernel, rfl⟩
theorem eL_law_759 : vD cL_law 759 (.aload_n 3) 1 760 := ⟨by decide +kernel, rfl⟩
theorem eL_law_760 : vD cL_law 760 (.invokestatic 100) 3 763 := ⟨by decide +kernel, rfl⟩
theorem eL_law_763 : vD cL_law 763 (.istore 5) 2 765 := ⟨by decide +kernel, rfl⟩
theorem eL_law_765 : vD cL_law 765 (.aload_n 2) 1 766 := ⟨by decide +kernel, rfl⟩
theorem eL_law_766 : vD cL_law 766 (.aload_n 0) 1 767 := ⟨by decide +kernel, rfl⟩
theorem eL_law_767 : vD cL_law 767 (.iload 4) 2 769 := ⟨by decide +kernel, rfl⟩
theorem eL_law_769 : vD cL_law 769 (.iconst 1) 1 770 := ⟨by decide +kernel, rfl⟩
theorem eL_law_770 : vD cL_law 770 .iadd 1 771 := ⟨by decide +kernel, rfl⟩
theorem eL_law_771 : vD cL_law 771 .iaload 1 772 := ⟨by decide +kernel, rfl⟩
theorem eL_law_772 : vD cL_law 772 (.aload_n 0) 1 773 := ⟨by decide +kernel, rfl⟩
theorem eL_law_773 : vD cL_law 773 (.iload 4) 2 775 := ⟨by decide +kernel, rfl⟩
theorem eL_law_775 : vD cL_law 775 (.iconst 2) 1 776 := ⟨by decide +kernel, rfl⟩
theorem eL_law_776 : vD cL_law 776 .iadd 1 777 := ⟨by decide +kernel, rfl⟩
theorem eL_law_777 : vD cL_law 777 .iaload 1 778 := ⟨by decide +kernel, rfl⟩
theorem eL_law_778 : vD cL_law 778 (.invokevirtual 102) 3 781 := ⟨by decide +kernel, rfl⟩
theorem eL_law_781 : vD cL_law 781 (.istore 6) 2 783 := ⟨by decide +kernel, rfl⟩
theorem eL_law_783 : vD cL_law 783 (.aload_n 2) 1 784 := ⟨by decide +kernel, rfl⟩
theorem eL_law_784 : vD cL_law 784 (.invokevirtual 69) 3 787 := ⟨by decide +kernel, rfl⟩
theorem eL_law_787 : vD cL_law 787 (.iload 5) 2 789 := ⟨by decide +kernel, rfl⟩
theorem eL_law_789 : vD cL_law 789 (.if_icmp .eq 5) 3 792 := ⟨by decide +kernel, rfl⟩
theorem eL_law_792 : vD cL_law 792 (.iconst 0) 1 793 := ⟨by decide +kernel, rfl⟩
theorem eL_law_793 : vD cL_law 793 .ireturn 1 794 := ⟨by decide +kernel, rfl⟩
theorem eL_law_794 : vD cL_law 794 (.iload 5) 2 796 := ⟨by decide +kernel, rfl⟩
theorem eL_law_796 : vD cL_law 796 (.ifCond .ne 15) 3 799 := ⟨by decide +kernel, rfl⟩
theorem eL_law_799 : vD cL_law 799 (.aload_n 3) 1 800 := ⟨by decide +kernel, rfl⟩
theorem eL_law_800 : vD cL_law 800 (.iconst 0) 1 801 := ⟨by decide +kernel, rfl⟩
theorem eL_law_801 : vD cL_law 801 .laload 1 802 := ⟨by decide +kernel, rfl⟩
theorem eL_law_802 : vD cL_law 802 (.iload 6) 2 804 := ⟨by decide +kernel, rfl⟩
theorem eL_law_804 : vD cL_law 804 .i2l 1 805 := ⟨by decide +kernel, rfl⟩
theorem eL_law_805 : vD cL_law 805 .lcmp 1 806 := ⟨by decide +kernel, rfl⟩
theorem eL_law_806 : vD cL_law 806 (.ifCond .eq 5) 3 809 := ⟨by decide +kernel, rfl⟩
theorem eL_law_809 : vD cL_law 809 (.iconst 0) 1 810 := ⟨by decide +kernel, rfl⟩
theorem eL_law_810 : vD cL_law 810 .ireturn 1 811 := ⟨by decide +kernel, rfl⟩
theorem eL_law_811 : vD cL_law 811 (.goto 182) 3 814 := ⟨by decide +kernel, rfl⟩
theorem eL_law_814 : vD cL_law 814 (.aload_n 1) 1 815 := ⟨by decide +kernel, rfl⟩
theorem eL_law_815 : vD cL_law 815 (.aload_n 0) 1 816 := ⟨by decide +kernel, rfl⟩
theorem eL_law_816 : vD cL_law 816 (.iload 4) 2 818 := ⟨by decide +kernel, rfl⟩
theorem eL_law_818 : vD cL_law 818 (.iconst 1) 1 819 := ⟨by decide +kernel, rfl⟩
theorem eL_law_819 : vD cL_law 819 .iadd 1 820 := ⟨by decide +kernel, rfl⟩
theorem eL_law_820 : vD cL_law 820 .iaload 1 821 := ⟨by decide +kernel, rfl⟩
theorem eL_law_821 : vD cL_law 821 (.aload_n 0) 1 822 := ⟨by decide +kernel, rfl⟩
theorem eL_law_822 : vD cL_law 822 (.iload 4) 2 824 := ⟨by decide +kernel, rfl⟩
theorem eL_law_824 : vD cL_law 824 (.iconst 2) 1 825 := ⟨by decide +kernel, rfl⟩
theorem eL_law_825 : vD cL_law 825 .iadd 1 826 := ⟨by decide +kernel, rfl⟩
theorem eL_law_826 : vD cL_law 826 .iaload 1 827 := ⟨by decide +kernel, rfl⟩
theorem eL_law_827 : vD cL_law 827 (.aload_n 3) 1 828 := ⟨by decide +kernel, rfl⟩
theorem eL_law_828 : vD cL_law 828 (.invokestatic 103) 3 831 := ⟨by decide +kernel, rfl⟩
theorem eL_law_831 : vD cL_law 831 (.istore 5) 2 833 := ⟨by decide +kernel, rfl⟩
theorem eL_law_833 : vD cL_law 833 (.aload_n 2) 1 834 := ⟨by decide +kernel, rfl⟩
theorem eL_law_834 : vD cL_law 834 (.aload_n 0) 1 835 := ⟨by decide +kernel, rfl⟩
theorem eL_law_835 : vD cL_law 835 (.iload 4) 2 837 := ⟨by decide +kernel, rfl⟩
theorem eL_law_837 : vD cL_law 837 (.iconst 1) 1 838 := ⟨by decide +kernel, rfl⟩
theorem eL_law_838 : vD cL_law 838 .iadd 1 839 := ⟨by decide +kernel, rfl⟩
theorem eL_law_839 : vD cL_law 839 .iaload 1 840 := ⟨by decide +kernel, rfl⟩
theorem eL_law_840 : vD cL_law 840 (.aload_n 0) 1 841 := ⟨by decide +kernel, rfl⟩
theorem eL_law_841 : vD cL_law 841 (.iload 4) 2 843 := ⟨by decide +kernel, rfl⟩
theorem eL_law_843 : vD cL_law 843 (.iconst 2) 1 844 := ⟨by decide +kernel, rfl⟩
theorem eL_law_844 : vD cL_law 844 .iadd 1 845 := ⟨by decide +kernel, rfl⟩
theorem eL_law_845 : vD cL_law 845 .iaload 1 846 := ⟨by decide +kernel, rfl⟩
theorem eL_law_846 : vD cL_law 846 (.invokevirtual 105) 3 849 := ⟨by decide +kernel, rfl⟩
theorem eL_law_849 : vD cL_law 849 (.istore 6) 2 851 := ⟨by decide +kernel, rfl⟩
theorem eL_law_851 : vD cL_law 851 (.aload_n 2) 1 852 := ⟨by decide +kernel, rfl⟩
theorem eL_law_852 : vD cL_law 852 (.invokevirtual 69) 3 855 := ⟨by decide +kernel, rfl⟩
theorem eL_law_855 : vD cL_law 855 (.iload 5) 2 857 := ⟨by decide +kernel, rfl⟩
theorem eL_law_857 : vD cL_law 857 (.if_icmp .eq 5) 3 860 := ⟨by decide +kernel, rfl⟩
theorem eL_law_860 : vD cL_law 860 (.iconst 0) 1 861 := ⟨by decide +kernel, rfl⟩
theorem eL_law_861 : vD cL_law 861 .ireturn 1 862 := ⟨by decide +kernel, rfl⟩
theorem eL_law_862 : vD cL_law 862 (.iload 5) 2 864 := ⟨by decide +kernel, rfl⟩
theorem eL_law_864 : vD cL_law 864 (.ifCond .ne 22) 3 867 := ⟨by decide +kernel, rfl⟩
theorem eL_law_867 : vD cL_law 867 (.aload_n 3) 1 868 := ⟨by decide +kernel, rfl⟩
theorem eL_law_868 : vD cL_law 868 (.iconst 0) 1 869 := ⟨by decide +kernel, rfl⟩
theorem eL_law_869 : vD cL_law 869 .laload 1 870 := ⟨by decide +kernel, rfl⟩
theorem eL_law_870 : vD cL_law 870 (.iload 6) 2 872 := ⟨by decide +kernel, rfl⟩
theorem eL_law_872 : vD cL_law 872 (.ifCond .eq 7) 3 875 := ⟨by decide +kernel, rfl⟩
theorem eL_law_875 : vD cL_law 875 (.lconst 1) 1 876 := ⟨by decide +kernel, rfl⟩
theorem eL_law_876 : vD cL_law 876 (.goto 4) 3 879 := ⟨by decide +kernel, rfl⟩
theorem eL_law_879 : vD cL_law 879 (.lconst 0) 1 880 := ⟨by decide +kernel, rfl⟩
theorem eL_law_880 : vD cL_law 880 .lcmp 1 881 := ⟨by decide +kernel, rfl⟩
theorem eL_law_881 : vD cL_law 881 (.ifCond .eq 5) 3 884 := ⟨by decide +kernel, rfl⟩
theorem eL_law_884 : vD cL_law 884 (.iconst 0) 1 885 := ⟨by decide +kernel, rfl⟩
theorem eL_law_885 : vD cL_law 885 .ireturn 1 886 := ⟨by decide +kernel, rfl⟩
theorem eL_law_886 : vD cL_law 886 (.goto 107) 3 889 := ⟨by decide +kernel, rfl⟩
theorem eL_law_889 : vD cL_law 889 (.aload_n 1) 1 890 := ⟨by decide +kernel, rfl⟩
theorem eL_law_890 : vD cL_law 890 (.aload_n 0) 1 891 := ⟨by decide +kernel, rfl⟩
theorem eL_law_891 : vD cL_law 891 (.iload 4) 2 893 := ⟨by decide +kernel, rfl⟩
theorem eL_law_893 : vD cL_law 893 (.iconst 1) 1 894 := ⟨by decide +kernel, rfl⟩
theorem eL_law_894 : vD cL_law 894 .iadd 1 895 := ⟨by decide +kernel, rfl⟩
theorem eL_law_895 : vD cL_law 895 .iaload 1 896 := ⟨by decide +kernel, rfl⟩
theorem eL_law_896 : vD cL_law 896 (.aload_n 0) 1 897 := ⟨by decide +kernel, rfl⟩
theorem eL_law_897 : vD cL_law 897 (.iload 4) 2 899 := ⟨by decide +kernel, rfl⟩
theorem eL_law_899 : vD cL_law 899 (.iconst 2) 1 900 := ⟨by decide +kernel, rfl⟩
theorem eL_law_900 : vD cL_law 900 .iadd 1 901 := ⟨by decide +kernel, rfl⟩
theorem eL_law_901 : vD cL_law 901 .iaload 1 902 := ⟨by decide +kernel, rfl⟩
theorem eL_law_902 : vD cL_law 902 (.aload_n 0) 1 903 := ⟨by decide +kernel, rfl⟩
theorem eL_law_903 : vD cL_law 903 (.iload 4) 2 905 := ⟨by decide +kernel, rfl⟩
theorem eL_law_905 : vD cL_law 905 (.iconst 3) 1 906 := ⟨by decide +kernel, rfl⟩
theorem eL_law_906 : vD cL_law 906 .iadd 1 907 := ⟨by decide +kernel, rfl⟩
theorem eL_law_907 : vD cL_law 907 .iaload 1 908 := ⟨by decide +kernel, rfl⟩
theorem eL_law_908 : vD cL_law 908 (.aload_n 0) 1 909 := ⟨by decide +kernel, rfl⟩
theorem eL_law_909 : vD cL_law 909 (.iload 4) 2 911 := ⟨by decide +kernel, rfl⟩
theorem eL_law_911 : vD cL_law 911 (.iconst 4) 1 912 := ⟨by decide +kernel, rfl⟩
theorem eL_law_912 : vD cL_law 912 .iadd 1 913 := ⟨by decide +kernel, rfl⟩
theorem eL_law_913 : vD cL_law 913 .iaload 1 914 := ⟨by decide +kernel, rfl⟩
theorem eL_law_914 : vD cL_law 914 (.aload_n 0) 1 915 := ⟨by decide +kernel, rfl⟩
theorem eL_law_915 : vD cL_law 915 (.iload 4) 2 917 := ⟨by decide +kernel, rfl⟩
theorem eL_law_917 : vD cL_law 917 (.iconst 5) 1 918 := ⟨by decide +kernel, rfl⟩
theorem eL_law_918 : vD cL_law 918 .iadd 1 919 := ⟨by decide +kernel, rfl⟩
theorem eL_law_919 : vD cL_law 919 .iaload 1 920 := ⟨by decide +kernel, rfl⟩
theorem eL_law_920 : vD cL_law 920 (.aload_n 3) 1 921 := ⟨by decide +kernel, rfl⟩
theorem eL_law_921 : vD cL_law 921 (.invokestatic 106) 3 924 := ⟨by decide +kernel, rfl⟩
theorem eL_law_924 : vD cL_law 924 (.istore 5) 2 926 := ⟨by decide +kernel, rfl⟩
theorem eL_law_926 : vD cL_law 926 (.aload_n 2) 1 927 := ⟨by decide +kernel, rfl⟩
theorem eL_law_927 : vD cL_law 927 (.aload_n 0) 1 928 := ⟨by decide +kernel, rfl⟩
theorem eL_law_928 : vD cL_law 928 (.iload 4) 2 930 := ⟨by decide +kernel, rfl⟩
theorem eL_law_930 : vD cL_law 930 (.iconst 1) 1 931 := ⟨by decide +kernel, rfl⟩
theorem eL_law_931 : vD cL_law 931 .iadd 1 932 := ⟨by decide +kernel, rfl⟩
theorem eL_law_932 : vD cL_law 932 .iaload 1 933 := ⟨by decide +kernel, rfl⟩
theorem eL_law_933 : vD cL_law 933 (.aload_n 0) 1 934 := ⟨by decide +kernel, rfl⟩
theorem eL_law_934 : vD cL_law 934 (.iload 4) 2 936 := ⟨by decide +kernel, rfl⟩
theorem eL_law_936 : vD cL_law 936 (.iconst 2) 1 937 := ⟨by decide +kernel, rfl⟩
theorem eL_law_937 : vD cL_law 937 .iadd 1 938 := ⟨by decide +kernel, rfl⟩
theorem eL_law_938 : vD cL_law 938 .iaload 1 939 := ⟨by decide +kernel, rfl⟩
theorem eL_law_939 : vD cL_law 939 (.aload_n 0) 1 940 := ⟨by decide +kernel, rfl⟩
theorem eL_law_940 : vD cL_law 940 (.iload 4) 2 942 := ⟨by decide +kernel, rfl⟩
theorem eL_law_942 : vD cL_law 942 (.iconst 3) 1 943 := ⟨by decide +kernel, rfl⟩
theorem eL_law_943 : vD cL_law 943 .iadd 1 944 := ⟨by decide +kernel, rfl⟩
theorem eL_law_944 : vD cL_law 944 .iaload 1 945 := ⟨by decide +kernel, rfl⟩
theorem eL_law_945 : vD cL_law 945 (.aload_n 0) 1 946 := ⟨by decide +kernel, rfl⟩
theorem eL_law_946 : vD cL_law 946 (.iload 4) 2 948 := ⟨by decide +kernel, rfl⟩
theorem eL_law_948 : vD cL_law 948 (.iconst 4) 1 949 := ⟨by decide +kernel, rfl⟩
theorem eL_law_949 : vD cL_law 949 .iadd 1 950 := ⟨by decide +kernel, rfl⟩
theorem eL_law_950 : vD cL_law 950 .iaload 1 951 := ⟨by decide +kernel, rfl⟩
theorem eL_law_951 : vD cL_law 951 (.aload_n 0) 1 952 := ⟨by decide +kernel, rfl⟩
theorem eL_law_952 : vD cL_law 952 (.iload 4) 2 954 := ⟨by decide +kernel, rfl⟩
theorem eL_law_954 : vD cL_law 954 (.iconst 5) 1 955 := ⟨by decide +kernel, rfl⟩
theorem eL_law_955 : vD cL_law 955 .iadd 1 956 := ⟨by decide +kernel, rfl⟩
theorem eL_law_956 : vD cL_law 956 .iaload 1 957 := ⟨by decide +kernel, rfl⟩
theorem eL_law_957 : vD cL_law 957 (.invokevirtual 108) 3 960 := ⟨by decide +kernel, rfl⟩
theorem eL_law_960 : vD cL_law 960 (.istore 6) 2 962 := ⟨by decide +kernel, rfl⟩
theorem eL_law_962 : vD cL_law 962 (.aload_n 2) 1 963 := ⟨by decide +kernel, rfl⟩
theorem eL_law_963 : vD cL_law 963 (.invokevirtual 69) 3 966 := ⟨by decide +kernel, rfl⟩
theorem eL_law_966 : vD cL_law 966 (.iload 5) 2 968 := ⟨by decide +kernel, rfl⟩
theorem eL_law_968 : vD cL_law 968 (.if_icmp .eq 5) 3 971 := ⟨by decide +kernel, rfl⟩
theorem eL_law_971 : vD cL_law 971 (.iconst 0) 1 972 := ⟨by decide +kernel, rfl⟩
theorem eL_law_972 : vD cL_law 972 .ireturn 1 973 := ⟨by decide +kernel, rfl⟩
theorem eL_law_973 : vD cL_law 973 (.iload 5) 2 975 := ⟨by decide +kernel, rfl⟩
theorem eL_law_975 : vD cL_law 975 (.ifCond .ne 15) 3 978 := ⟨by decide +kernel, rfl⟩
theorem eL_law_978 : vD cL_law 978 (.aload_n 3) 1 979 := ⟨by decide +kernel, rfl⟩
theorem eL_law_979 : vD cL_law 979 (.iconst 0) 1 980 := ⟨by decide +kernel, rfl⟩
theorem eL_law_980 : vD cL_law 980 .laload 1 981 := ⟨by decide +kernel, rfl⟩
theorem eL_law_981 : vD cL_law 981 (.iload 6) 2 983 := ⟨by decide +kernel, rfl⟩
theorem eL_law_983 : vD cL_law 983 .i2l 1 984 := ⟨by decide +kernel, rfl⟩
theorem eL_law_984 : vD cL_law 984 .lcmp 1 985 := ⟨by decide +kernel, rfl⟩
theorem eL_law_985 : vD cL_law 985 (.ifCond .eq 5) 3 988 := ⟨by decide +kernel, rfl⟩
theorem eL_law_988 : vD cL_law 988 (.iconst 0) 1 989 := ⟨by decide +kernel, rfl⟩
theorem eL_law_989 : vD cL_law 989 .ireturn 1 990 := ⟨by decide +kernel, rfl⟩
theorem eL_law_990 : vD cL_law 990 (.goto 3) 3 993 := ⟨by decide +kernel, rfl⟩
theorem eL_law_993 : vD cL_law 993 (.iinc 4 6) 3 996 := ⟨by decide +kernel, rfl⟩
theorem eL_law_996 : vD cL_law 996 (.goto (-973)) 3 999 := ⟨by decide +kernel, rfl⟩
theorem eL_law_999 : vD cL_law 999 (.iconst 1) 1 1000 := ⟨by decide +kernel, rfl⟩
theorem eL_law_1000 : vD cL_law 1000 .ireturn 1 1001 := ⟨by decide +kernel, rfl⟩
section LA
variable {G : vG} {l : Launch}
theorem law_ret {p : Program} {e : Env} {s : State} {m : MethodId} {below : List Frame} {meth : Method} {c : Code} {b : Nat} {cells slots : Nat} (C : vC G s.heap.size p m meth c cL_law 8 (some .boolean) s #[Value.ref b] RL) (hcs : cells ≤ 600002 ∧ slots ≤ 7302232) {w : vW} {pc pc' : Nat} {lv : List (Nat × Value)} (hd : vD cL_law pc .ireturn 1 pc') : V G s.heap.size p l e room_1 s m #[Value.ref b] below meth c 8 cells slots (lw_Z below #[Value.ref b] s) w pc lv [.int 1] := fun H locs ls h1 h2 h3 =>
  va_forget (fun q hq => h2.2.2 q hq) (W.widen hcs.1 hcs.2 (lw_ret C.1.1 C.1.2.1 C.2.2.1 C.2.2.2 hd.1))
theorem law_fin {p : Program} {e : Env} {s : State} {m : MethodId} {below : List Frame} {meth : Method} {c : Code} {b L : Nat} {xs : Nat → Int32} {cells slots : Nat} (C : vC G s.heap.size p m meth c cL_law 8 (some .boolean) s #[Value.ref b] RL) (hX : va_X b L xs s s.heap) (hbl : b < s.heap.size) (hL : L = 6) (hcs : cells ≤ 600002 ∧ slots ≤ 7302232) {w : vW} : V G s.heap.size p l e room_1 s m #[Value.ref b] below meth c 8 cells slots (lw_Z below #[Value.ref b] s) w 993 [(0, .ref b), (4, .int 0)] [] := by
  refine v_iinc (lv' := [(0, .ref b), (4, .int 6)]) C eL_law_993 1 rfl (by decide) (by decide) [1, 0] rfl ?_
  refine v_goto (tgt := 23) C eL_law_996 (by decide) ?_
  refine v_iload C eL_law_23 1 rfl ?_
  refine v_aload_n C eL_law_25 rfl 0 rfl ?_
  refine g_slen C hX hbl (Nat.not_le.mpr hbl) eL_law_26 ?_
  refine v_bipush (v := (6 : Int32)) C eL_law_27 (by decide) ?_
  refine v_isub C eL_law_29 ?_
  refine v_icmp_gt (tgt := 999) C eL_law_30 (by decide) (fun _ => ?_) (fun h => absurd (by subst hL; decide) h)
  refine v_iconst (v := (1 : Int32)) C eL_law_999 (by decide) ?_
  exact law_ret C hcs eL_law_1000
set_option maxRecDepth 100000 in
set_option maxHeartbeats 4000000 in
theorem law_feed (hl : l.stackTraces = false) {p : Program} {e : Env} {s : State} {m : MethodId} {below : List Frame} {meth : Method} {c : Code} {b L : Nat} {xs : Nat → Int32} {cells slots : Nat} (C : vC G s.heap.size p m meth c cL_law 8 (some .boolean) s #[Value.ref b] RL) (hX : va_X b L xs s s.heap) (hbl : b < s.heap.size) (hL : L = 6) {ad : Nat → Nat} {x4 x6 x7 : Nat} {σ : nS} {f0 : Nat → Int64} (I : nI1 ad 87) (F : CF G ad x4 x6 x7 σ) (h86 : σ 86 = eJ G 1 f0) (hA : RA G ad θc S0 [] 0 σ) : V G s.heap.size p l e room_1 s m #[Value.ref b] below meth c 8 200 2000000 (lw_Z below #[Value.ref b] s) (nW ad 87 σ) 104 [(0, .ref b), (1, .ref (ad 74)), (2, .ref (ad 49)), (3, .ref (ad 86)), (4, .int 0)] [] := by
  refine v_aload_n C eL_law_104 rfl 1 rfl ?_
  refine v_aload_n C eL_law_105 rfl 0 rfl ?_
  refine v_iload C eL_law_106 4 rfl ?_
  refine v_iconst (v := (1 : Int32)) C eL_law_108 (by decide) ?_
  refine v_iadd C eL_law_109 ?_
  refine g_sld C hX hbl (Nat.not_le.mpr hbl) 1 (by decide) (by omega) (by omega) eL_law_110 ?_
  refine v_aload_n C eL_law_111 rfl 0 rfl ?_
  refine v_iload C eL_law_112 4 rfl ?_
  refine v_iconst (v := (2 : Int32)) C eL_law_114 (by decide) ?_
  refine v_iadd C eL_law_115 ?_
  refine g_sld C hX hbl (Nat.not_le.mpr hbl) 2 (by decide) (by omega) (by omega) eL_law_116 ?_
  refine v_aload_n C eL_law_117 rfl 0 rfl ?_
  refine v_iload C eL_law_118 4 rfl ?_
  refine v_iconst (v := (3 : Int32)) C eL_law_120 (by decide) ?_
  refine v_iadd C eL_law_121 ?_
  refine g_sld C hX hbl (Nat.not_le.mpr hbl) 3 (by decide) (by omega) (by omega) eL_law_122 ?_
  refine v_aload_n C eL_law_123 rfl 0 rfl ?_
  refine v_iload C eL_law_124 4 rfl ?_
  refine v_iconst (v := (4 : Int32)) C eL_law_126 (by decide) ?_
  refine v_iadd C eL_law_127 ?_
  refine g_sld C hX hbl (Nat.not_le.mpr hbl) 4 (by decide) (by omega) (by omega) eL_law_128 ?_
  refine v_aload_n C eL_law_129 rfl 0 rfl ?_
  refine v_iload C eL_law_130 4 rfl ?_
  refine v_iconst (v := (5 : Int32)) C eL_law_132 (by decide) ?_
  refine v_iadd C eL_law_133 ?_
  refine g_sld C hX hbl (Nat.not_le.mpr hbl) 5 (by decide) (by omega) (by omega) eL_law_134 ?_
  refine v_aload_n C eL_law_135 rfl 3 rfl ?_
  refine v_callW (av := [.ref (ad 74), .int (xs 1), .int (xs 2), .int (xs 3), .int (xs 4), .int (xs 5), .ref (ad 86)]) (rest := []) C mLW_feed (w_feed hl I (fun k hk => hk) F h86 (xs 1) (xs 2) (xs 3) (xs 4) (xs 5)) ⟨by decide, by decide⟩ ⟨by decide, by decide⟩ rfl rfl (Nat.le_of_ble_eq_true rfl) eL_law_136 (fun r w' hp => ?_)
  obtain ⟨σ1, rfl, g1, rfl, g2⟩ := hp
  have hA1 : RA G ad θc S0 [] 0 σ1 := RA_keep hA g1
  refine v_istore (lv' := [(0, .ref b), (1, .ref (ad 74)), (2, .ref (ad 49)), (3, .ref (ad 86)), (4, .int ((0 : Int32))), (5, .int ((sp_feed S0 [] (xs 1) (xs 2) (xs 3) (xs 4) (xs 5)).1))]) C eL_law_139 (by decide) [1, 2, 3, 4, 5, 0] rfl ?_
  refine v_aload_n C eL_law_141 rfl 2 rfl ?_
  refine v_aload_n C eL_law_142 rfl 0 rfl ?_
  refine v_iload C eL_law_143 4 rfl ?_
  refine v_iconst (v := (1 : Int32)) C eL_law_145 (by decide) ?_
  refine v_iadd C eL_law_146 ?_
  refine g_sld C hX hbl (Nat.not_le.mpr hbl) 1 (by decide) (by omega) (by omega) eL_law_147 ?_
  refine v_aload_n C eL_law_148 rfl 0 rfl ?_
  refine v_iload C eL_law_149 4 rfl ?_
  refine v_iconst (v := (2 : Int32)) C eL_law_151 (by decide) ?_
  refine v_iadd C eL_law_152 ?_
  refine g_sld C hX hbl (Nat.not_le.mpr hbl) 2 (by decide) (by omega) (by omega) eL_law_153 ?_
  refine v_aload_n C eL_law_154 rfl 0 rfl ?_
  refine v_iload C eL_law_155 4 rfl ?_
  refine v_iconst (v := (3 : Int32)) C eL_law_157 (by decide) ?_
  refine v_iadd C eL_law_158 ?_
  refine g_sld C hX hbl (Nat.not_le.mpr hbl) 3 (by decide) (by omega) (by omega) eL_law_159 ?_
  refine v_aload_n C eL_law_160 rfl 0 rfl ?_
  refine v_iload C eL_law_161 4 rfl ?_
  refine v_iconst (v := (4 : Int32)) C eL_law_163 (by decide) ?_
  refine v_iadd C eL_law_164 ?_
  refine g_sld C hX hbl (Nat.not_le.mpr hbl) 4 (by decide) (by omega) (by omega) eL_law_165 ?_
  refine v_aload_n C eL_law_166 rfl 0 rfl ?_
  refine v_iload C eL_law_167 4 rfl ?_
  refine v_iconst (v := (5 : Int32)) C eL_law_169 (by decide) ?_
  refine v_iadd C eL_law_170 ?_
  refine g_sld C hX hbl (Nat.not_le.mpr hbl) 5 (by decide) (by omega) (by omega) eL_law_171 ?_
  refine g_callV (As := [.int (xs 1), .int (xs 2), .int (xs 3), .int (xs 4), .int (xs 5)]) (rest := []) (b := 49) C I mL_68 (ra_feed I (fun k hk => by omega) hA1 (xs 1) (xs 2) (xs 3) (xs 4) (xs 5)) (by decide) (RA_obj hA1) ⟨by decide, by decide⟩ ⟨by decide, by decide⟩ rfl rfl (Nat.le_of_ble_eq_true rfl) eL_law_172 (fun r σ2 hp => ?_)
  obtain ⟨rfl, hA2, g3⟩ := hp
  refine v_istore (lv' := [(0, .ref b), (1, .ref (ad 74)), (2, .ref (ad 49)), (3, .ref (ad 86)), (4, .int ((0 : Int32))), (5, .int ((sp_feed S0 [] (xs 1) (xs 2) (xs 3) (xs 4) (xs 5)).1)), (6, .int ((sp_feed S0 [] (xs 1) (xs 2) (xs 3) (xs 4) (xs 5)).2.1))]) C eL_law_175 (by decide) [1, 2, 3, 4, 5, 6, 0] rfl ?_
  refine v_aload_n C eL_law_177 rfl 2 rfl ?_
  refine g_callV (As := []) (rest := []) (b := 49) C I mL_69 (ra_thrown I (fun k hk => by omega) hA2) (by decide) (RA_obj hA2) ⟨by decide, by decide⟩ ⟨by decide, by decide⟩ rfl rfl (Nat.le_of_ble_eq_true rfl) eL_law_178 (fun r σ3 hp => ?_)
  obtain ⟨rfl, rfl⟩ := hp
  refine v_iload C eL_law_181 5 rfl ?_
  refine v_icmp_eq (tgt := 188) C eL_law_183 (by decide) (fun _ => ?_) (fun h => absurd rfl h)
  refine v_iload C eL_law_188 5 rfl ?_
  refine v_if_ne (tgt := 205) C eL_law_190 (by decide) (fun c1 => ?_) (fun c1 => ?_)
  · refine v_goto (tgt := 993) C eL_law_205 (by decide) ?_
    refine v_pick (lv' := [(0, .ref b), (4, .int 0)]) [0, 4] rfl ?_
    exact law_fin C hX hbl hL ⟨by decide, by decide⟩
  · obtain ⟨f1, k1, k2⟩ := g2 c1
    have k3 : σ3 86 = eJ G 1 f1 := (g3 86 (by decide)).trans k1
    refine v_aload_n C eL_law_193 rfl 3 rfl ?_
    refine v_iconst (v := (0 : Int32)) C eL_law_194 (by decide) ?_
    refine n_lald C I eL_law_195 (by decide : 86 < 87) k3 0 (rfl : (0 : Int32) = nI 0) (by decide) (by decide) ?_
    refine v_iload C eL_law_196 6 rfl ?_
    refine v_i2l C eL_law_198 ?_
    refine v_lcmp C eL_law_199 ?_
    refine v_if_eq (tgt := 205) C eL_law_200 (by decide) (fun _ => ?_) (fun h => absurd (by rw [k2]; exact lg_cmp_self _) h)
    refine v_goto (tgt := 993) C eL_law_205 (by decide) ?_
    refine v_pick (lv' := [(0, .ref b), (4, .int 0)]) [0, 4] rfl ?_
    exact law_fin C hX hbl hL ⟨by decide, by decide⟩
set_option maxRecDepth 100000 in
set_option maxHeartbeats 4000000 in
theorem law_end (hl : l.stackTraces = false) {p : Program} {e : Env} {s : State} {m : MethodId} {below : List Frame} {meth : Method} {c : Code} {b L : Nat} {xs : Nat → Int32} {cells slots : Nat} (C : vC G s.heap.size p m meth c cL_law 8 (some .boolean) s #[Value.ref b] RL) (hX : va_X b L xs s s.heap) (hbl : b < s.heap.size) (hL : L = 6) {ad : Nat → Nat} {x4 x6 x7 : Nat} {σ : nS} {f0 : Nat → Int64} (I : nI1 ad 87) (F : CF G ad x4 x6 x7 σ) (h86 : σ 86 = eJ G 1 f0) (hA : RA G ad θc S0 [] 0 σ) : V G s.heap.size p l e room_1 s m #[Value.ref b] below meth c 8 200 2000000 (lw_Z below #[Value.ref b] s) (nW ad 87 σ) 208 [(0, .ref b), (1, .ref (ad 74)), (2, .ref (ad 49)), (3, .ref (ad 86)), (4, .int 0)] [] := by
  refine v_aload_n C eL_law_208 rfl 1 rfl ?_
  refine v_aload_n C eL_law_209 rfl 0 rfl ?_
  refine v_iload C eL_law_210 4 rfl ?_
  refine v_iconst (v := (1 : Int32)) C eL_law_212 (by decide) ?_
  refine v_iadd C eL_law_213 ?_
  refine g_sld C hX hbl (Nat.not_le.mpr hbl) 1 (by decide) (by omega) (by omega) eL_law_214 ?_
  refine v_aload_n C eL_law_215 rfl 0 rfl ?_
  refine v_iload C eL_law_216 4 rfl ?_
  refine v_iconst (v := (2 : Int32)) C eL_law_218 (by decide) ?_
  refine v_iadd C eL_law_219 ?_
  refine g_sld C hX hbl (Nat.not_le.mpr hbl) 2 (by decide) (by omega) (by omega) eL_law_220 ?_
  refine v_aload_n C eL_law_221 rfl 3 rfl ?_
  refine v_callW (av := [.ref (ad 74), .int (xs 1), .int (xs 2), .ref (ad 86)]) (rest := []) C mLW_end (w_end hl I (fun k hk => hk) F h86 (xs 1) (xs 2)) ⟨by decide, by decide⟩ ⟨by decide, by decide⟩ rfl rfl (Nat.le_of_ble_eq_true rfl) eL_law_222 (fun r w' hp => ?_)
  obtain ⟨σ1, rfl, g1, rfl, g2⟩ := hp
  have hA1 : RA G ad θc S0 [] 0 σ1 := RA_keep hA g1
  refine v_istore (lv' := [(0, .ref b), (1, .ref (ad 74)), (2, .ref (ad 49)), (3, .ref (ad 86)), (4, .int ((0 : Int32))), (5, .int ((sp_end S0 [] (xs 1) (xs 2)).1))]) C eL_law_225 (by decide) [1, 2, 3, 4, 5, 0] rfl ?_
  refine v_aload_n C eL_law_227 rfl 2 rfl ?_
  refine v_aload_n C eL_law_228 rfl 0 rfl ?_
  refine v_iload C eL_law_229 4 rfl ?_
  refine v_iconst (v := (1 : Int32)) C eL_law_231 (by decide) ?_
  refine v_iadd C eL_law_232 ?_
  refine g_sld C hX hbl (Nat.not_le.mpr hbl) 1 (by decide) (by omega) (by omega) eL_law_233 ?_
  refine v_aload_n C eL_law_234 rfl 0 rfl ?_
  refine v_iload C eL_law_235 4 rfl ?_
  refine v_iconst (v := (2 : Int32)) C eL_law_237 (by decide) ?_
  refine v_iadd C eL_law_238 ?_
  refine g_sld C hX hbl (Nat.not_le.mpr hbl) 2 (by decide) (by omega) (by omega) eL_law_239 ?_
  refine g_callV (As := [.int (xs 1), .int (xs 2)]) (rest := []) (b := 49) C I mL_76 (ra_end I (fun k hk => by omega) hA1 (xs 1) (xs 2)) (by decide) (RA_obj hA1) ⟨by decide, by decide⟩ ⟨by decide, by decide⟩ rfl rfl (Nat.le_of_ble_eq_true rfl) eL_law_240 (fun r σ2 hp => ?_)
  obtain ⟨rfl, hA2, g3⟩ := hp
  refine v_istore (lv' := [(0, .ref b), (1, .ref (ad 74)), (2, .ref (ad 49)), (3, .ref (ad 86)), (4, .int ((0 : Int32))), (5, .int ((sp_end S0 [] (xs 1) (xs 2)).1)), (6, .int ((sp_end S0 [] (xs 1) (xs 2)).2.1))]) C eL_law_243 (by decide) [1, 2, 3, 4, 5, 6, 0] rfl ?_
  refine v_aload_n C eL_law_245 rfl 2 rfl ?_
  refine g_callV (As := []) (rest := []) (b := 49) C I mL_69 (ra_thrown I (fun k hk => by omega) hA2) (by decide) (RA_obj hA2) ⟨by decide, by decide⟩ ⟨by decide, by decide⟩ rfl rfl (Nat.le_of_ble_eq_true rfl) eL_law_246 (fun r σ3 hp => ?_)
  obtain ⟨rfl, rfl⟩ := hp
  refine v_iload C eL_law_249 5 rfl ?_
  refine v_icmp_eq (tgt := 256) C eL_law_251 (by decide) (fun _ => ?_) (fun h => absurd rfl h)
  refine v_iload C eL_law_256 5 rfl ?_
  refine v_if_ne (tgt := 273) C eL_law_258 (by decide) (fun c1 => ?_) (fun c1 => ?_)
  · refine v_goto (tgt := 993) C eL_law_273 (by decide) ?_
    refine v_pick (lv' := [(0, .ref b), (4, .int 0)]) [0, 4] rfl ?_
    exact law_fin C hX hbl hL ⟨by decide, by decide⟩
  · obtain ⟨f1, k1, k2⟩ := g2 c1
    have k3 : σ3 86 = eJ G 1 f1 := (g3 86 (by decide)).trans k1
    refine v_aload_n C eL_law_261 rfl 3 rfl ?_
    refine v_iconst (v := (0 : Int32)) C eL_law_262 (by decide) ?_
    refine n_lald C I eL_law_263 (by decide : 86 < 87) k3 0 (rfl : (0 : Int32) = nI 0) (by decide) (by decide) ?_
    refine v_iload C eL_law_264 6 rfl ?_
    refine v_i2l C eL_law_266 ?_
    refine v_lcmp C eL_law_267 ?_
    refine v_if_eq (tgt := 273) C eL_law_268 (by decide) (fun _ => ?_) (fun h => absurd (by rw [k2]; exact lg_cmp_self _) h)
    refine v_goto (tgt := 993) C eL_law_273 (by decide) ?_
    refine v_pick (lv' := [(0, .ref b), (4, .int 0)]) [0, 4] rfl ?_
    exact law_fin C hX hbl hL ⟨by decide, by decide⟩
set_option maxRecDepth 100000 in
set_option maxHeartbeats 4000000 in
theorem law_copy (hl : l.stackTraces = false) {p : Program} {e : Env} {s : State} {m : MethodId} {below : List Frame} {meth : Method} {c : Code} {b L : Nat} {xs : Nat → Int32} {cells slots : Nat} (C : vC G s.heap.size p m meth c cL_law 8 (some .boolean) s #[Value.ref b] RL) (hX : va_X b L xs s s.heap) (hbl : b < s.heap.size) (hL : L = 6) {ad : Nat → Nat} {x4 x6 x7 : Nat} {σ : nS} {f0 : Nat → Int64} (I : nI1 ad 87) (F : CF G ad x4 x6 x7 σ) (h86 : σ 86 = eJ G 1 f0) (hA : RA G ad θc S0 [] 0 σ) : V G s.heap.size p l e room_1 s m #[Value.ref b] below meth c 8 200 2000000 (lw_Z below #[Value.ref b] s) (nW ad 87 σ) 276 [(0, .ref b), (1, .ref (ad 74)), (2, .ref (ad 49)), (3, .ref (ad 86)), (4, .int 0)] [] := by
  refine v_aload_n C eL_law_276 rfl 1 rfl ?_
  refine v_aload_n C eL_law_277 rfl 0 rfl ?_
  refine v_iload C eL_law_278 4 rfl ?_
  refine v_iconst (v := (1 : Int32)) C eL_law_280 (by decide) ?_
  refine v_iadd C eL_law_281 ?_
  refine g_sld C hX hbl (Nat.not_le.mpr hbl) 1 (by decide) (by omega) (by omega) eL_law_282 ?_
  refine v_aload_n C eL_law_283 rfl 0 rfl ?_
  refine v_iload C eL_law_284 4 rfl ?_
  refine v_iconst (v := (2 : Int32)) C eL_law_286 (by decide) ?_
  refine v_iadd C eL_law_287 ?_
  refine g_sld C hX hbl (Nat.not_le.mpr hbl) 2 (by decide) (by omega) (by omega) eL_law_288 ?_
  refine v_aload_n C eL_law_289 rfl 3 rfl ?_
  refine v_callW (av := [.ref (ad 74), .int (xs 1), .int (xs 2), .ref (ad 86)]) (rest := []) C mLW_copy (w_copy hl I (fun k hk => hk) F h86 (xs 1) (xs 2)) ⟨by decide, by decide⟩ ⟨by decide, by decide⟩ rfl rfl (Nat.le_of_ble_eq_true rfl) eL_law_290 (fun r w' hp => ?_)
  obtain ⟨σ1, rfl, g1, rfl, g2⟩ := hp
  have hA1 : RA G ad θc S0 [] 0 σ1 := RA_keep hA g1
  refine v_istore (lv' := [(0, .ref b), (1, .ref (ad 74)), (2, .ref (ad 49)), (3, .ref (ad 86)), (4, .int ((0 : Int32))), (5, .int ((sp_copy S0 [] (xs 1) (xs 2)).1))]) C eL_law_293 (by decide) [1, 2, 3, 4, 5, 0] rfl ?_
  refine v_aload_n C eL_law_295 rfl 2 rfl ?_
  refine v_aload_n C eL_law_296 rfl 0 rfl ?_
  refine v_iload C eL_law_297 4 rfl ?_
  refine v_iconst (v := (1 : Int32)) C eL_law_299 (by decide) ?_
  refine v_iadd C eL_law_300 ?_
  refine g_sld C hX hbl (Nat.not_le.mpr hbl) 1 (by decide) (by omega) (by omega) eL_law_301 ?_
  refine v_aload_n C eL_law_302 rfl 0 rfl ?_
  refine v_iload C eL_law_303 4 rfl ?_
  refine v_iconst (v := (2 : Int32)) C eL_law_305 (by decide) ?_
  refine v_iadd C eL_law_306 ?_
  refine g_sld C hX hbl (Nat.not_le.mpr hbl) 2 (by decide) (by omega) (by omega) eL_law_307 ?_
  refine g_callV (As := [.int (xs 1), .int (xs 2)]) (rest := []) (b := 49) C I mL_79 (ra_copy I (fun k hk => by omega) hA1 (xs 1) (xs 2)) (by decide) (RA_obj hA1) ⟨by decide, by decide⟩ ⟨by decide, by decide⟩ rfl rfl (Nat.le_of_ble_eq_true rfl) eL_law_308 (fun r σ2 hp => ?_)
  obtain ⟨rfl, hA2, g3⟩ := hp
  refine v_istore (lv' := [(0, .ref b), (1, .ref (ad 74)), (2, .ref (ad 49)), (3, .ref (ad 86)), (4, .int ((0 : Int32))), (5, .int ((sp_copy S0 [] (xs 1) (xs 2)).1)), (6, .int ((sp_copy S0 [] (xs 1) (xs 2)).2.1))]) C eL_law_311 (by decide) [1, 2, 3, 4, 5, 6, 0] rfl ?_
  refine v_aload_n C eL_law_313 rfl 2 rfl ?_
  refine g_callV (As := []) (rest := []) (b := 49) C I mL_69 (ra_thrown I (fun k hk => by omega) hA2) (by decide) (RA_obj hA2) ⟨by decide, by decide⟩ ⟨by decide, by decide⟩ rfl rfl (Nat.le_of_ble_eq_true rfl) eL_law_314 (fun r σ3 hp => ?_)
  obtain ⟨rfl, rfl⟩ := hp
  refine v_iload C eL_law_317 5 rfl ?_
  refine v_icmp_eq (tgt := 324) C eL_law_319 (by decide) (fun _ => ?_) (fun h => absurd rfl h)
  refine v_iload C eL_law_324 5 rfl ?_
  refine v_if_ne (tgt := 341) C eL_law_326 (by decide) (fun c1 => ?_) (fun c1 => ?_)
  · refine v_goto (tgt := 993) C eL_law_341 (by decide) ?_
    refine v_pick (lv' := [(0, .ref b), (4, .int 0)]) [0, 4] rfl ?_
    exact law_fin C hX hbl hL ⟨by decide, by decide⟩
  · obtain ⟨f1, k1, k2⟩ := g2 c1
    have k3 : σ3 86 = eJ G 1 f1 := (g3 86 (by decide)).trans k1
    refine v_aload_n C eL_law_329 rfl 3 rfl ?_
    refine v_iconst (v := (0 : Int32)) C eL_law_330 (by decide) ?_
    refine n_lald C I eL_law_331 (by decide : 86 < 87) k3 0 (rfl : (0 : Int32) = nI 0) (by decide) (by decide) ?_
    refine v_iload C eL_law_332 6 rfl ?_
    refine v_i2l C eL_law_334 ?_
    refine v_lcmp C eL_law_335 ?_
    refine v_if_eq (tgt := 341) C eL_law_336 (by decide) (fun _ => ?_) (fun h => absurd (by rw [k2]; exact lg_cmp_self _) h)
    refine v_goto (tgt := 993) C eL_law_341 (by decide) ?_
    refine v_pick (lv' := [(0, .ref b), (4, .int 0)]) [0, 4] rfl ?_
    exact law_fin C hX hbl hL ⟨by decide, by decide⟩
set_option maxRecDepth 100000 in
set_option maxHeartbeats 4000000 in
theorem law_resize (hl : l.stackTraces = false) {p : Program} {e : Env} {s : State} {m : MethodId} {below : List Frame} {meth : Method} {c : Code} {b L : Nat} {xs : Nat → Int32} {cells slots : Nat} (C : vC G s.heap.size p m meth c cL_law 8 (some .boolean) s #[Value.ref b] RL) (hX : va_X b L xs s s.heap) (hbl : b < s.heap.size) (hL : L = 6) {ad : Nat → Nat} {x4 x6 x7 : Nat} {σ : nS} {f0 : Nat → Int64} (I : nI1 ad 87) (F : CF G ad x4 x6 x7 σ) (h86 : σ 86 = eJ G 1 f0) (hA : RA G ad θc S0 [] 0 σ) : V G s.heap.size p l e room_1 s m #[Value.ref b] below meth c 8 200 2000000 (lw_Z below #[Value.ref b] s) (nW ad 87 σ) 344 [(0, .ref b), (1, .ref (ad 74)), (2, .ref (ad 49)), (3, .ref (ad 86)), (4, .int 0)] [] := by
  refine v_aload_n C eL_law_344 rfl 1 rfl ?_
  refine v_aload_n C eL_law_345 rfl 0 rfl ?_
  refine v_iload C eL_law_346 4 rfl ?_
  refine v_iconst (v := (1 : Int32)) C eL_law_348 (by decide) ?_
  refine v_iadd C eL_law_349 ?_
  refine g_sld C hX hbl (Nat.not_le.mpr hbl) 1 (by decide) (by omega) (by omega) eL_law_350 ?_
  refine v_aload_n C eL_law_351 rfl 0 rfl ?_
  refine v_iload C eL_law_352 4 rfl ?_
  refine v_iconst (v := (2 : Int32)) C eL_law_354 (by decide) ?_
  refine v_iadd C eL_law_355 ?_
  refine g_sld C hX hbl (Nat.not_le.mpr hbl) 2 (by decide) (by omega) (by omega) eL_law_356 ?_
  refine v_aload_n C eL_law_357 rfl 3 rfl ?_
  refine v_callW (av := [.ref (ad 74), .int (xs 1), .int (xs 2), .ref (ad 86)]) (rest := []) C mLW_resize (w_resize hl I (fun k hk => hk) F h86 (xs 1) (xs 2)) ⟨by decide, by decide⟩ ⟨by decide, by decide⟩ rfl rfl (Nat.le_of_ble_eq_true rfl) eL_law_358 (fun r w' hp => ?_)
  obtain ⟨σ1, rfl, g1, rfl, g2⟩ := hp
  have hA1 : RA G ad θc S0 [] 0 σ1 := RA_keep hA g1
  refine v_istore (lv' := [(0, .ref b), (1, .ref (ad 74)), (2, .ref (ad 49)), (3, .ref (ad 86)), (4, .int ((0 : Int32))), (5, .int ((sp_resize S0 [] (xs 1) (xs 2)).1))]) C eL_law_361 (by decide) [1, 2, 3, 4, 5, 0] rfl ?_
  refine v_aload_n C eL_law_363 rfl 2 rfl ?_
  refine v_aload_n C eL_law_364 rfl 0 rfl ?_
  refine v_iload C eL_law_365 4 rfl ?_
  refine v_iconst (v := (1 : Int32)) C eL_law_367 (by decide) ?_
  refine v_iadd C eL_law_368 ?_
  refine g_sld C hX hbl (Nat.not_le.mpr hbl) 1 (by decide) (by omega) (by omega) eL_law_369 ?_
  refine v_aload_n C eL_law_370 rfl 0 rfl ?_
  refine v_iload C eL_law_371 4 rfl ?_
  refine v_iconst (v := (2 : Int32)) C eL_law_373 (by decide) ?_
  refine v_iadd C eL_law_374 ?_
  refine g_sld C hX hbl (Nat.not_le.mpr hbl) 2 (by decide) (by omega) (by omega) eL_law_375 ?_
  refine g_callV (As := [.int (xs 1), .int (xs 2)]) (rest := []) (b := 49) C I mL_82 (ra_resize I (fun k hk => by omega) hA1 (xs 1) (xs 2)) (by decide) (RA_obj hA1) ⟨by decide, by decide⟩ ⟨by decide, by decide⟩ rfl rfl (Nat.le_of_ble_eq_true rfl) eL_law_376 (fun r σ2 hp => ?_)
  obtain ⟨rfl, hA2, g3⟩ := hp
  refine v_istore (lv' := [(0, .ref b), (1, .ref (ad 74)), (2, .ref (ad 49)), (3, .ref (ad 86)), (4, .int ((0 : Int32))), (5, .int ((sp_resize S0 [] (xs 1) (xs 2)).1)), (6, .int ((sp_resize S0 [] (xs 1) (xs 2)).2.1))]) C eL_law_379 (by decide) [1, 2, 3, 4, 5, 6, 0] rfl ?_
  refine v_aload_n C eL_law_381 rfl 2 rfl ?_
  refine g_callV (As := []) (rest := []) (b := 49) C I mL_69 (ra_thrown I (fun k hk => by omega) hA2) (by decide) (RA_obj hA2) ⟨by decide, by decide⟩ ⟨by decide, by decide⟩ rfl rfl (Nat.le_of_ble_eq_true rfl) eL_law_382 (fun r σ3 hp => ?_)
  obtain ⟨rfl, rfl⟩ := hp
  refine v_iload C eL_law_385 5 rfl ?_
  refine v_icmp_eq (tgt := 392) C eL_law_387 (by decide) (fun _ => ?_) (fun h => absurd rfl h)
  refine v_iload C eL_law_392 5 rfl ?_
  refine v_if_ne (tgt := 409) C eL_law_394 (by decide) (fun c1 => ?_) (fun c1 => ?_)
  · refine v_goto (tgt := 993) C eL_law_409 (by decide) ?_
    refine v_pick (lv' := [(0, .ref b), (4, .int 0)]) [0, 4] rfl ?_
    exact law_fin C hX hbl hL ⟨by decide, by decide⟩
  · obtain ⟨f1, k1, k2⟩ := g2 c1
    have k3 : σ3 86 = eJ G 1 f1 := (g3 86 (by decide)).trans k1
    refine v_aload_n C eL_law_397 rfl 3 rfl ?_
    refine v_iconst (v := (0 : Int32)) C eL_law_398 (by decide) ?_
    refine n_lald C I eL_law_399 (by decide : 86 < 87) k3 0 (rfl : (0 : Int32) = nI 0) (by decide) (by decide) ?_
    refine v_iload C eL_law_400 6 rfl ?_
    refine v_i2l C eL_law_402 ?_
    refine v_lcmp C eL_law_403 ?_
    refine v_if_eq (tgt := 409) C eL_law_404 (by decide) (fun _ => ?_) (fun h => absurd (by rw [k2]; exact lg_cmp_self _) h)
    refine v_goto (tgt := 993) C eL_law_409 (by decide) ?_
    refine v_pick (lv' := [(0, .ref b), (4, .int 0)]) [0, 4] rfl ?_
    exact law_fin C hX hbl hL ⟨by decide, by decide⟩
set_option maxRecDepth 100000 in
set_option maxHeartbeats 4000000 in
theorem law_alter (hl : l.stackTraces = false) {p : Program} {e : Env} {s : State} {m : MethodId} {below : List Frame} {meth : Method} {c : Code} {b L : Nat} {xs : Nat → Int32} {cells slots : Nat} (C : vC G s.heap.size p m meth c cL_law 8 (some .boolean) s #[Value.ref b] RL) (hX : va_X b L xs s s.heap) (hbl : b < s.heap.size) (hL : L = 6) {ad : Nat → Nat} {x4 x6 x7 : Nat} {σ : nS} {f0 : Nat → Int64} (I : nI1 ad 87) (F : CF G ad x4 x6 x7 σ) (h86 : σ 86 = eJ G 1 f0) (hA : RA G ad θc S0 [] 0 σ) : V G s.heap.size p l e room_1 s m #[Value.ref b] below meth c 8 200 2000000 (lw_Z below #[Value.ref b] s) (nW ad 87 σ) 412 [(0, .ref b), (1, .ref (ad 74)), (2, .ref (ad 49)), (3, .ref (ad 86)), (4, .int 0)] [] := by
  refine v_aload_n C eL_law_412 rfl 1 rfl ?_
  refine v_aload_n C eL_law_413 rfl 0 rfl ?_
  refine v_iload C eL_law_414 4 rfl ?_
  refine v_iconst (v := (1 : Int32)) C eL_law_416 (by decide) ?_
  refine v_iadd C eL_law_417 ?_
  refine g_sld C hX hbl (Nat.not_le.mpr hbl) 1 (by decide) (by omega) (by omega) eL_law_418 ?_
  refine v_aload_n C eL_law_419 rfl 0 rfl ?_
  refine v_iload C eL_law_420 4 rfl ?_
  refine v_iconst (v := (2 : Int32)) C eL_law_422 (by decide) ?_
  refine v_iadd C eL_law_423 ?_
  refine g_sld C hX hbl (Nat.not_le.mpr hbl) 2 (by decide) (by omega) (by omega) eL_law_424 ?_
  refine v_aload_n C eL_law_425 rfl 0 rfl ?_
  refine v_iload C eL_law_426 4 rfl ?_
  refine v_iconst (v := (3 : Int32)) C eL_law_428 (by decide) ?_
  refine v_iadd C eL_law_429 ?_
  refine g_sld C hX hbl (Nat.not_le.mpr hbl) 3 (by decide) (by omega) (by omega) eL_law_430 ?_
  refine v_aload_n C eL_law_431 rfl 3 rfl ?_
  refine v_callW (av := [.ref (ad 74), .int (xs 1), .int (xs 2), .int (xs 3), .ref (ad 86)]) (rest := []) C mLW_alter (w_alter hl I (fun k hk => hk) F h86 (xs 1) (xs 2) (xs 3)) ⟨by decide, by decide⟩ ⟨by decide, by decide⟩ rfl rfl (Nat.le_of_ble_eq_true rfl) eL_law_432 (fun r w' hp => ?_)
  obtain ⟨σ1, rfl, g1, rfl, g2⟩ := hp
  have hA1 : RA G ad θc S0 [] 0 σ1 := RA_keep hA g1
  refine v_istore (lv' := [(0, .ref b), (1, .ref (ad 74)), (2, .ref (ad 49)), (3, .ref (ad 86)), (4, .int ((0 : Int32))), (5, .int ((sp_alter S0 [] (xs 1) (xs 2) (xs 3)).1))]) C eL_law_435 (by decide) [1, 2, 3, 4, 5, 0] rfl ?_
  refine v_aload_n C eL_law_437 rfl 2 rfl ?_
  refine v_aload_n C eL_law_438 rfl 0 rfl ?_
  refine v_iload C eL_law_439 4 rfl ?_
  refine v_iconst (v := (1 : Int32)) C eL_law_441 (by decide) ?_
  refine v_iadd C eL_law_442 ?_
  refine g_sld C hX hbl (Nat.not_le.mpr hbl) 1 (by decide) (by omega) (by omega) eL_law_443 ?_
  refine v_aload_n C eL_law_444 rfl 0 rfl ?_
  refine v_iload C eL_law_445 4 rfl ?_
  refine v_iconst (v := (2 : Int32)) C eL_law_447 (by decide) ?_
  refine v_iadd C eL_law_448 ?_
  refine g_sld C hX hbl (Nat.not_le.mpr hbl) 2 (by decide) (by omega) (by omega) eL_law_449 ?_
  refine v_aload_n C eL_law_450 rfl 0 rfl ?_
  refine v_iload C eL_law_451 4 rfl ?_
  refine v_iconst (v := (3 : Int32)) C eL_law_453 (by decide) ?_
  refine v_iadd C eL_law_454 ?_
  refine g_sld C hX hbl (Nat.not_le.mpr hbl) 3 (by decide) (by omega) (by omega) eL_law_455 ?_
  refine g_callV (As := [.int (xs 1), .int (xs 2), .int (xs 3)]) (rest := []) (b := 49) C I mL_86 (ra_alter I (fun k hk => by omega) hA1 (xs 1) (xs 2) (xs 3)) (by decide) (RA_obj hA1) ⟨by decide, by decide⟩ ⟨by decide, by decide⟩ rfl rfl (Nat.le_of_ble_eq_true rfl) eL_law_456 (fun r σ2 hp => ?_)
  obtain ⟨rfl, hA2, g3⟩ := hp
  refine v_istore (lv' := [(0, .ref b), (1, .ref (ad 74)), (2, .ref (ad 49)), (3, .ref (ad 86)), (4, .int ((0 : Int32))), (5, .int ((sp_alter S0 [] (xs 1) (xs 2) (xs 3)).1)), (6, .int ((sp_alter S0 [] (xs 1) (xs 2) (xs 3)).2.1))]) C eL_law_459 (by decide) [1, 2, 3, 4, 5, 6, 0] rfl ?_
  refine v_aload_n C eL_law_461 rfl 2 rfl ?_
  refine g_callV (As := []) (rest := []) (b := 49) C I mL_69 (ra_thrown I (fun k hk => by omega) hA2) (by decide) (RA_obj hA2) ⟨by decide, by decide⟩ ⟨by decide, by decide⟩ rfl rfl (Nat.le_of_ble_eq_true rfl) eL_law_462 (fun r σ3 hp => ?_)
  obtain ⟨rfl, rfl⟩ := hp
  refine v_iload C eL_law_465 5 rfl ?_
  refine v_icmp_eq (tgt := 472) C eL_law_467 (by decide) (fun _ => ?_) (fun h => absurd rfl h)
  refine v_iload C eL_law_472 5 rfl ?_
  refine v_if_ne (tgt := 489) C eL_law_474 (by decide) (fun c1 => ?_) (fun c1 => ?_)
  · refine v_goto (tgt := 993) C eL_law_489 (by decide) ?_
    refine v_pick (lv' := [(0, .ref b), (4, .int 0)]) [0, 4] rfl ?_
    exact law_fin C hX hbl hL ⟨by decide, by decide⟩
  · obtain ⟨f1, k1, k2⟩ := g2 c1
    have k3 : σ3 86 = eJ G 1 f1 := (g3 86 (by decide)).trans k1
    refine v_aload_n C eL_law_477 rfl 3 rfl ?_
    refine v_iconst (v := (0 : Int32)) C eL_law_478 (by decide) ?_
    refine n_lald C I eL_law_479 (by decide : 86 < 87) k3 0 (rfl : (0 : Int32) = nI 0) (by decide) (by decide) ?_
    refine v_iload C eL_law_480 6 rfl ?_
    refine v_i2l C eL_law_482 ?_
    refine v_lcmp C eL_law_483 ?_
    refine v_if_eq (tgt := 489) C eL_law_484 (by decide) (fun _ => ?_) (fun h => absurd (by rw [k2]; exact lg_cmp_self _) h)
    refine v_goto (tgt := 993) C eL_law_489 (by decide) ?_
    refine v_pick (lv' := [(0, .ref b), (4, .int 0)]) [0, 4] rfl ?_
    exact law_fin C hX hbl hL ⟨by decide, by decide⟩
set_option maxRecDepth 100000 in
set_option maxHeartbeats 4000000 in
theorem law_length (hl : l.stackTraces = false) {p : Program} {e : Env} {s : State} {m : MethodId} {below : List Frame} {meth : Method} {c : Code} {b L : Nat} {xs : Nat → Int32} {cells slots : Nat} (C : vC G s.heap.size p m meth c cL_law 8 (some .boolean) s #[Value.ref b] RL) (hX : va_X b L xs s s.heap) (hbl : b < s.heap.size) (hL : L = 6) {ad : Nat → Nat} {x4 x6 x7 : Nat} {σ : nS} {f0 : Nat → Int64} (I : nI1 ad 87) (F : CF G ad x4 x6 x7 σ) (h86 : σ 86 = eJ G 1 f0) (hA : RA G ad θc S0 [] 0 σ) : V G s.heap.size p l e room_1 s m #[Value.ref b] below meth c 8 200 2000000 (lw_Z below #[Value.ref b] s) (nW ad 87 σ) 492 [(0, .ref b), (1, .ref (ad 74)), (2, .ref (ad 49)), (3, .ref (ad 86)), (4, .int 0)] [] := by
  refine v_aload_n C eL_law_492 rfl 1 rfl ?_
  refine v_aload_n C eL_law_493 rfl 0 rfl ?_
  refine v_iload C eL_law_494 4 rfl ?_
  refine v_iconst (v := (1 : Int32)) C eL_law_496 (by decide) ?_
  refine v_iadd C eL_law_497 ?_
  refine g_sld C hX hbl (Nat.not_le.mpr hbl) 1 (by decide) (by omega) (by omega) eL_law_498 ?_
  refine v_aload_n C eL_law_499 rfl 3 rfl ?_
  refine v_callW (av := [.ref (ad 74), .int (xs 1), .ref (ad 86)]) (rest := []) C mLW_length (w_length hl I (fun k hk => hk) F h86 (xs 1)) ⟨by decide, by decide⟩ ⟨by decide, by decide⟩ rfl rfl (Nat.le_of_ble_eq_true rfl) eL_law_500 (fun r w' hp => ?_)
  obtain ⟨σ1, rfl, g1, rfl, g2⟩ := hp
  have hA1 : RA G ad θc S0 [] 0 σ1 := RA_keep hA g1
  refine v_istore (lv' := [(0, .ref b), (1, .ref (ad 74)), (2, .ref (ad 49)), (3, .ref (ad 86)), (4, .int ((0 : Int32))), (5, .int ((sp_length S0 [] (xs 1)).1))]) C eL_law_503 (by decide) [1, 2, 3, 4, 5, 0] rfl ?_
  refine v_aload_n C eL_law_505 rfl 2 rfl ?_
  refine v_aload_n C eL_law_506 rfl 0 rfl ?_
  refine v_iload C eL_law_507 4 rfl ?_
  refine v_iconst (v := (1 : Int32)) C eL_law_509 (by decide) ?_
  refine v_iadd C eL_law_510 ?_
  refine g_sld C hX hbl (Nat.not_le.mpr hbl) 1 (by decide) (by omega) (by omega) eL_law_511 ?_
  refine g_callV (As := [.int (xs 1)]) (rest := []) (b := 49) C I mL_90 (ra_length I (fun k hk => by omega) hA1 (xs 1)) (by decide) (RA_obj hA1) ⟨by decide, by decide⟩ ⟨by decide, by decide⟩ rfl rfl (Nat.le_of_ble_eq_true rfl) eL_law_512 (fun r σ2 hp => ?_)
  obtain ⟨rfl, hA2, g3⟩ := hp
  refine v_istore (lv' := [(0, .ref b), (1, .ref (ad 74)), (2, .ref (ad 49)), (3, .ref (ad 86)), (4, .int ((0 : Int32))), (5, .int ((sp_length S0 [] (xs 1)).1)), (6, .int ((sp_length S0 [] (xs 1)).2.1))]) C eL_law_515 (by decide) [1, 2, 3, 4, 5, 6, 0] rfl ?_
  refine v_aload_n C eL_law_517 rfl 2 rfl ?_
  refine g_callV (As := []) (rest := []) (b := 49) C I mL_69 (ra_thrown I (fun k hk => by omega) hA2) (by decide) (RA_obj hA2) ⟨by decide, by decide⟩ ⟨by decide, by decide⟩ rfl rfl (Nat.le_of_ble_eq_true rfl) eL_law_518 (fun r σ3 hp => ?_)
  obtain ⟨rfl, rfl⟩ := hp
  refine v_iload C eL_law_521 5 rfl ?_
  refine v_icmp_eq (tgt := 528) C eL_law_523 (by decide) (fun _ => ?_) (fun h => absurd rfl h)
  refine v_iload C eL_law_528 5 rfl ?_
  refine v_if_ne (tgt := 545) C eL_law_530 (by decide) (fun c1 => ?_) (fun c1 => ?_)
  · refine v_goto (tgt := 993) C eL_law_545 (by decide) ?_
    refine v_pick (lv' := [(0, .ref b), (4, .int 0)]) [0, 4] rfl ?_
    exact law_fin C hX hbl hL ⟨by decide, by decide⟩
  · obtain ⟨f1, k1, k2⟩ := g2 c1
    have k3 : σ3 86 = eJ G 1 f1 := (g3 86 (by decide)).trans k1
    refine v_aload_n C eL_law_533 rfl 3 rfl ?_
    refine v_iconst (v := (0 : Int32)) C eL_law_534 (by decide) ?_
    refine n_lald C I eL_law_535 (by decide : 86 < 87) k3 0 (rfl : (0 : Int32) = nI 0) (by decide) (by decide) ?_
    refine v_iload C eL_law_536 6 rfl ?_
    refine v_i2l C eL_law_538 ?_
    refine v_lcmp C eL_law_539 ?_
    refine v_if_eq (tgt := 545) C eL_law_540 (by decide) (fun _ => ?_) (fun h => absurd (by rw [k2]; exact lg_cmp_self _) h)
    refine v_goto (tgt := 993) C eL_law_545 (by decide) ?_
    refine v_pick (lv' := [(0, .ref b), (4, .int 0)]) [0, 4] rfl ?_
    exact law_fin C hX hbl hL ⟨by decide, by decide⟩
set_option maxRecDepth 100000 in
set_option maxHeartbeats 4000000 in
theorem law_word (hl : l.stackTraces = false) {p : Program} {e : Env} {s : State} {m : MethodId} {below : List Frame} {meth : Method} {c : Code} {b L : Nat} {xs : Nat → Int32} {cells slots : Nat} (C : vC G s.heap.size p m meth c cL_law 8 (some .boolean) s #[Value.ref b] RL) (hX : va_X b L xs s s.heap) (hbl : b < s.heap.size) (hL : L = 6) {ad : Nat → Nat} {x4 x6 x7 : Nat} {σ : nS} {f0 : Nat → Int64} (I : nI1 ad 87) (F : CF G ad x4 x6 x7 σ) (h86 : σ 86 = eJ G 1 f0) (hA : RA G ad θc S0 [] 0 σ) : V G s.heap.size p l e room_1 s m #[Value.ref b] below meth c 8 200 2000000 (lw_Z below #[Value.ref b] s) (nW ad 87 σ) 548 [(0, .ref b), (1, .ref (ad 74)), (2, .ref (ad 49)), (3, .ref (ad 86)), (4, .int 0)] [] := by
  refine v_aload_n C eL_law_548 rfl 1 rfl ?_
  refine v_aload_n C eL_law_549 rfl 0 rfl ?_
  refine v_iload C eL_law_550 4 rfl ?_
  refine v_iconst (v := (1 : Int32)) C eL_law_552 (by decide) ?_
  refine v_iadd C eL_law_553 ?_
  refine g_sld C hX hbl (Nat.not_le.mpr hbl) 1 (by decide) (by omega) (by omega) eL_law_554 ?_
  refine v_aload_n C eL_law_555 rfl 0 rfl ?_
  refine v_iload C eL_law_556 4 rfl ?_
  refine v_iconst (v := (2 : Int32)) C eL_law_558 (by decide) ?_
  refine v_iadd C eL_law_559 ?_
  refine g_sld C hX hbl (Nat.not_le.mpr hbl) 2 (by decide) (by omega) (by omega) eL_law_560 ?_
  refine v_aload_n C eL_law_561 rfl 3 rfl ?_
  refine v_callW (av := [.ref (ad 74), .int (xs 1), .int (xs 2), .ref (ad 86)]) (rest := []) C mLW_word (w_word hl I (fun k hk => hk) F h86 (xs 1) (xs 2)) ⟨by decide, by decide⟩ ⟨by decide, by decide⟩ rfl rfl (Nat.le_of_ble_eq_true rfl) eL_law_562 (fun r w' hp => ?_)
  obtain ⟨σ1, rfl, g1, rfl, g2⟩ := hp
  have hA1 : RA G ad θc S0 [] 0 σ1 := RA_keep hA g1
  refine v_istore (lv' := [(0, .ref b), (1, .ref (ad 74)), (2, .ref (ad 49)), (3, .ref (ad 86)), (4, .int ((0 : Int32))), (5, .int ((sp_word S0 (xs 1) (xs 2)).1))]) C eL_law_565 (by decide) [1, 2, 3, 4, 5, 0] rfl ?_
  refine v_aload_n C eL_law_567 rfl 2 rfl ?_
  refine v_aload_n C eL_law_568 rfl 0 rfl ?_
  refine v_iload C eL_law_569 4 rfl ?_
  refine v_iconst (v := (1 : Int32)) C eL_law_571 (by decide) ?_
  refine v_iadd C eL_law_572 ?_
  refine g_sld C hX hbl (Nat.not_le.mpr hbl) 1 (by decide) (by omega) (by omega) eL_law_573 ?_
  refine v_aload_n C eL_law_574 rfl 0 rfl ?_
  refine v_iload C eL_law_575 4 rfl ?_
  refine v_iconst (v := (2 : Int32)) C eL_law_577 (by decide) ?_
  refine v_iadd C eL_law_578 ?_
  refine g_sld C hX hbl (Nat.not_le.mpr hbl) 2 (by decide) (by omega) (by omega) eL_law_579 ?_
  refine g_callV (As := [.int (xs 1), .int (xs 2)]) (rest := []) (b := 49) C I mL_93 (ra_word2 I (fun k hk => by omega) hA1 (xs 1) (xs 2)) (by decide) (RA_obj hA1) ⟨by decide, by decide⟩ ⟨by decide, by decide⟩ rfl rfl (Nat.le_of_ble_eq_true rfl) eL_law_580 (fun r σ2 hp => ?_)
  obtain ⟨rfl, hA2, g3⟩ := hp
  refine v_lstore (lv' := [(0, .ref b), (1, .ref (ad 74)), (2, .ref (ad 49)), (3, .ref (ad 86)), (4, .int ((0 : Int32))), (5, .int ((sp_word S0 (xs 1) (xs 2)).1)), (6, .long ((sp_word S0 (xs 1) (xs 2)).2))]) C eL_law_583 (by decide) [1, 2, 3, 4, 5, 6, 0] rfl ?_
  refine v_aload_n C eL_law_585 rfl 2 rfl ?_
  refine g_callV (As := []) (rest := []) (b := 49) C I mL_69 (ra_thrown I (fun k hk => by omega) hA2) (by decide) (RA_obj hA2) ⟨by decide, by decide⟩ ⟨by decide, by decide⟩ rfl rfl (Nat.le_of_ble_eq_true rfl) eL_law_586 (fun r σ3 hp => ?_)
  obtain ⟨rfl, rfl⟩ := hp
  refine v_iload C eL_law_589 5 rfl ?_
  refine v_icmp_eq (tgt := 596) C eL_law_591 (by decide) (fun _ => ?_) (fun h => absurd rfl h)
  refine v_iload C eL_law_596 5 rfl ?_
  refine v_if_ne (tgt := 612) C eL_law_598 (by decide) (fun c1 => ?_) (fun c1 => ?_)
  · refine v_goto (tgt := 993) C eL_law_612 (by decide) ?_
    refine v_pick (lv' := [(0, .ref b), (4, .int 0)]) [0, 4] rfl ?_
    exact law_fin C hX hbl hL ⟨by decide, by decide⟩
  · obtain ⟨f1, k1, k2⟩ := g2 c1
    have k3 : σ3 86 = eJ G 1 f1 := (g3 86 (by decide)).trans k1
    refine v_aload_n C eL_law_601 rfl 3 rfl ?_
    refine v_iconst (v := (0 : Int32)) C eL_law_602 (by decide) ?_
    refine n_lald C I eL_law_603 (by decide : 86 < 87) k3 0 (rfl : (0 : Int32) = nI 0) (by decide) (by decide) ?_
    refine v_lload C eL_law_604 6 rfl ?_
    refine v_lcmp C eL_law_606 ?_
    refine v_if_eq (tgt := 612) C eL_law_607 (by decide) (fun _ => ?_) (fun h => absurd (by rw [k2]; exact lg_cmp_self _) h)
    refine v_goto (tgt := 993) C eL_law_612 (by decide) ?_
    refine v_pick (lv' := [(0, .ref b), (4, .int 0)]) [0, 4] rfl ?_
    exact law_fin C hX hbl hL ⟨by decide, by decide⟩
set_option maxRecDepth 100000 in
set_option maxHeartbeats 4000000 in
theorem law_same (hl : l.stackTraces = false) {p : Program} {e : Env} {s : State} {m : MethodId} {below : List Frame} {meth : Method} {c : Code} {b L : Nat} {xs : Nat → Int32} {cells slots : Nat} (C : vC G s.heap.size p m meth c cL_law 8 (some .boolean) s #[Value.ref b] RL) (hX : va_X b L xs s s.heap) (hbl : b < s.heap.size) (hL : L = 6) {ad : Nat → Nat} {x4 x6 x7 : Nat} {σ : nS} {f0 : Nat → Int64} (I : nI1 ad 87) (F : CF G ad x4 x6 x7 σ) (h86 : σ 86 = eJ G 1 f0) (hA : RA G ad θc S0 [] 0 σ) : V G s.heap.size p l e room_1 s m #[Value.ref b] below meth c 8 200 2000000 (lw_Z below #[Value.ref b] s) (nW ad 87 σ) 615 [(0, .ref b), (1, .ref (ad 74)), (2, .ref (ad 49)), (3, .ref (ad 86)), (4, .int 0)] [] := by
  refine v_aload_n C eL_law_615 rfl 1 rfl ?_
  refine v_aload_n C eL_law_616 rfl 0 rfl ?_
  refine v_iload C eL_law_617 4 rfl ?_
  refine v_iconst (v := (1 : Int32)) C eL_law_619 (by decide) ?_
  refine v_iadd C eL_law_620 ?_
  refine g_sld C hX hbl (Nat.not_le.mpr hbl) 1 (by decide) (by omega) (by omega) eL_law_621 ?_
  refine v_aload_n C eL_law_622 rfl 0 rfl ?_
  refine v_iload C eL_law_623 4 rfl ?_
  refine v_iconst (v := (2 : Int32)) C eL_law_625 (by decide) ?_
  refine v_iadd C eL_law_626 ?_
  refine g_sld C hX hbl (Nat.not_le.mpr hbl) 2 (by decide) (by omega) (by omega) eL_law_627 ?_
  refine v_aload_n C eL_law_628 rfl 3 rfl ?_
  refine v_callW (av := [.ref (ad 74), .int (xs 1), .int (xs 2), .ref (ad 86)]) (rest := []) C mLW_same (w_same hl I (fun k hk => hk) F h86 (xs 1) (xs 2)) ⟨by decide, by decide⟩ ⟨by decide, by decide⟩ rfl rfl (Nat.le_of_ble_eq_true rfl) eL_law_629 (fun r w' hp => ?_)
  obtain ⟨σ1, rfl, g1, rfl, g2⟩ := hp
  have hA1 : RA G ad θc S0 [] 0 σ1 := RA_keep hA g1
  refine v_istore (lv' := [(0, .ref b), (1, .ref (ad 74)), (2, .ref (ad 49)), (3, .ref (ad 86)), (4, .int ((0 : Int32))), (5, .int ((sp_same S0 [] (xs 1) (xs 2)).1))]) C eL_law_632 (by decide) [1, 2, 3, 4, 5, 0] rfl ?_
  refine v_aload_n C eL_law_634 rfl 2 rfl ?_
  refine v_aload_n C eL_law_635 rfl 0 rfl ?_
  refine v_iload C eL_law_636 4 rfl ?_
  refine v_iconst (v := (1 : Int32)) C eL_law_638 (by decide) ?_
  refine v_iadd C eL_law_639 ?_
  refine g_sld C hX hbl (Nat.not_le.mpr hbl) 1 (by decide) (by omega) (by omega) eL_law_640 ?_
  refine v_aload_n C eL_law_641 rfl 0 rfl ?_
  refine v_iload C eL_law_642 4 rfl ?_
  refine v_iconst (v := (2 : Int32)) C eL_law_644 (by decide) ?_
  refine v_iadd C eL_law_645 ?_
  refine g_sld C hX hbl (Nat.not_le.mpr hbl) 2 (by decide) (by omega) (by omega) eL_law_646 ?_
  refine g_callV (As := [.int (xs 1), .int (xs 2)]) (rest := []) (b := 49) C I mL_96 (ra_same I (fun k hk => by omega) hA1 (xs 1) (xs 2)) (by decide) (RA_obj hA1) ⟨by decide, by decide⟩ ⟨by decide, by decide⟩ rfl rfl (Nat.le_of_ble_eq_true rfl) eL_law_647 (fun r σ2 hp => ?_)
  obtain ⟨rfl, hA2, g3⟩ := hp
  refine v_istore (lv' := [(0, .ref b), (1, .ref (ad 74)), (2, .ref (ad 49)), (3, .ref (ad 86)), (4, .int ((0 : Int32))), (5, .int ((sp_same S0 [] (xs 1) (xs 2)).1)), (6, .int ((sp_same S0 [] (xs 1) (xs 2)).2.1))]) C eL_law_650 (by decide) [1, 2, 3, 4, 5, 6, 0] rfl ?_
  refine v_aload_n C eL_law_652 rfl 2 rfl ?_
  refine g_callV (As := []) (rest := []) (b := 49) C I mL_69 (ra_thrown I (fun k hk => by omega) hA2) (by decide) (RA_obj hA2) ⟨by decide, by decide⟩ ⟨by decide, by decide⟩ rfl rfl (Nat.le_of_ble_eq_true rfl) eL_law_653 (fun r σ3 hp => ?_)
  obtain ⟨rfl, rfl⟩ := hp
  refine v_iload C eL_law_656 5 rfl ?_
  refine v_icmp_eq (tgt := 663) C eL_law_658 (by decide) (fun _ => ?_) (fun h => absurd rfl h)
  refine v_iload C eL_law_663 5 rfl ?_
  refine v_if_ne (tgt := 687) C eL_law_665 (by decide) (fun c1 => ?_) (fun c1 => ?_)
  · refine v_goto (tgt := 993) C eL_law_687 (by decide) ?_
    refine v_pick (lv' := [(0, .ref b), (4, .int 0)]) [0, 4] rfl ?_
    exact law_fin C hX hbl hL ⟨by decide, by decide⟩
  · obtain ⟨f1, k1, k2⟩ := g2 c1
    have k3 : σ3 86 = eJ G 1 f1 := (g3 86 (by decide)).trans k1
    refine v_aload_n C eL_law_668 rfl 3 rfl ?_
    refine v_iconst (v := (0 : Int32)) C eL_law_669 (by decide) ?_
    refine n_lald C I eL_law_670 (by decide : 86 < 87) k3 0 (rfl : (0 : Int32) = nI 0) (by decide) (by decide) ?_
    refine v_iload C eL_law_671 6 rfl ?_
    have k4 := z_sameV c1
    refine v_if_eq (tgt := 680) C eL_law_673 (by decide) (fun h => absurd h (fun h => absurd (k4.symm.trans h) (by decide))) (fun _ => ?_)
    refine v_lconst (v := (1 : Int64)) C eL_law_676 (by decide) ?_
    refine v_goto (tgt := 681) C eL_law_677 (by decide) ?_
    refine v_lcmp C eL_law_681 ?_
    refine v_if_eq (tgt := 687) C eL_law_682 (by decide) (fun _ => ?_) (fun h => absurd (by rw [k2, k4]; decide) h)
    refine v_goto (tgt := 993) C eL_law_687 (by decide) ?_
    refine v_pick (lv' := [(0, .ref b), (4, .int 0)]) [0, 4] rfl ?_
    exact law_fin C hX hbl hL ⟨by decide, by decide⟩
set_option maxRecDepth 100000 in
set_option maxHeartbeats 4000000 in
theorem law_slhKeys (hl : l.stackTraces = false) {p : Program} {e : Env} {s : State} {m : MethodId} {below : List Frame} {meth : Method} {c : Code} {b L : Nat} {xs : Nat → Int32} {cells slots : Nat} (C : vC G s.heap.size p m meth c cL_law 8 (some .boolean) s #[Value.ref b] RL) (hX : va_X b L xs s s.heap) (hbl : b < s.heap.size) (hL : L = 6) {ad : Nat → Nat} {x4 x6 x7 : Nat} {σ : nS} {f0 : Nat → Int64} (I : nI1 ad 87) (F : CF G ad x4 x6 x7 σ) (h86 : σ 86 = eJ G 1 f0) (hA : RA G ad θc S0 [] 0 σ) : V G s.heap.size p l e room_1 s m #[Value.ref b] below meth c 8 200 2000000 (lw_Z below #[Value.ref b] s) (nW ad 87 σ) 690 [(0, .ref b), (1, .ref (ad 74)), (2, .ref (ad 49)), (3, .ref (ad 86)), (4, .int 0)] [] := by
  refine v_aload_n C eL_law_690 rfl 1 rfl ?_
  refine v_aload_n C eL_law_691 rfl 0 rfl ?_
  refine v_iload C eL_law_692 4 rfl ?_
  refine v_iconst (v := (1 : Int32)) C eL_law_694 (by decide) ?_
  refine v_iadd C eL_law_695 ?_
  refine g_sld C hX hbl (Nat.not_le.mpr hbl) 1 (by decide) (by omega) (by omega) eL_law_696 ?_
  refine v_aload_n C eL_law_697 rfl 3 rfl ?_
  refine v_callW (av := [.ref (ad 74), .int (xs 1), .ref (ad 86)]) (rest := []) C mLW_slhKeys (w_slhKeys (θ := θc) hl I (fun k hk => hk) F h86 (xs 1)) ⟨by decide, by decide⟩ ⟨by decide, by decide⟩ rfl rfl (Nat.le_of_ble_eq_true rfl) eL_law_698 (fun r w' hp => ?_)
  obtain ⟨σ1, rfl, g1, rfl, g2⟩ := hp
  have hA1 : RA G ad θc S0 [] 0 σ1 := RA_keep hA g1
  refine v_istore (lv' := [(0, .ref b), (1, .ref (ad 74)), (2, .ref (ad 49)), (3, .ref (ad 86)), (4, .int ((0 : Int32))), (5, .int ((sp_keys θc S0 [] (xs 1)).1))]) C eL_law_701 (by decide) [1, 2, 3, 4, 5, 0] rfl ?_
  refine v_aload_n C eL_law_703 rfl 2 rfl ?_
  refine v_aload_n C eL_law_704 rfl 0 rfl ?_
  refine v_iload C eL_law_705 4 rfl ?_
  refine v_iconst (v := (1 : Int32)) C eL_law_707 (by decide) ?_
  refine v_iadd C eL_law_708 ?_
  refine g_sld C hX hbl (Nat.not_le.mpr hbl) 1 (by decide) (by omega) (by omega) eL_law_709 ?_
  refine g_callV (As := [.int (xs 1)]) (rest := []) (b := 49) C I mL_99 (ra_slhKeys I (fun k hk => by omega) hA1 (xs 1)) (by decide) (RA_obj hA1) ⟨by decide, by decide⟩ ⟨by decide, by decide⟩ rfl rfl (Nat.le_of_ble_eq_true rfl) eL_law_710 (fun r σ2 hp => ?_)
  obtain ⟨rfl, hA2, g3⟩ := hp
  refine v_istore (lv' := [(0, .ref b), (1, .ref (ad 74)), (2, .ref (ad 49)), (3, .ref (ad 86)), (4, .int ((0 : Int32))), (5, .int ((sp_keys θc S0 [] (xs 1)).1)), (6, .int ((sp_keys θc S0 [] (xs 1)).2.1))]) C eL_law_713 (by decide) [1, 2, 3, 4, 5, 6, 0] rfl ?_
  refine v_aload_n C eL_law_715 rfl 2 rfl ?_
  refine g_callV (As := []) (rest := []) (b := 49) C I mL_69 (ra_thrown I (fun k hk => by omega) hA2) (by decide) (RA_obj hA2) ⟨by decide, by decide⟩ ⟨by decide, by decide⟩ rfl rfl (Nat.le_of_ble_eq_true rfl) eL_law_716 (fun r σ3 hp => ?_)
  obtain ⟨rfl, rfl⟩ := hp
  refine v_iload C eL_law_719 5 rfl ?_
  refine v_icmp_eq (tgt := 726) C eL_law_721 (by decide) (fun _ => ?_) (fun h => absurd rfl h)
  refine v_iload C eL_law_726 5 rfl ?_
  refine v_if_ne (tgt := 743) C eL_law_728 (by decide) (fun c1 => ?_) (fun c1 => ?_)
  · refine v_goto (tgt := 993) C eL_law_743 (by decide) ?_
    refine v_pick (lv' := [(0, .ref b), (4, .int 0)]) [0, 4] rfl ?_
    exact law_fin C hX hbl hL ⟨by decide, by decide⟩
  · obtain ⟨f1, k1, k2⟩ := g2 c1
    have k3 : σ3 86 = eJ G 1 f1 := (g3 86 (by decide)).trans k1
    refine v_aload_n C eL_law_731 rfl 3 rfl ?_
    refine v_iconst (v := (0 : Int32)) C eL_law_732 (by decide) ?_
    refine n_lald C I eL_law_733 (by decide : 86 < 87) k3 0 (rfl : (0 : Int32) = nI 0) (by decide) (by decide) ?_
    refine v_iload C eL_law_734 6 rfl ?_
    refine v_i2l C eL_law_736 ?_
    refine v_lcmp C eL_law_737 ?_
    refine v_if_eq (tgt := 743) C eL_law_738 (by decide) (fun _ => ?_) (fun h => absurd (by rw [k2]; exact lg_cmp_self _) h)
    refine v_goto (tgt := 993) C eL_law_743 (by decide) ?_
    refine v_pick (lv' := [(0, .ref b), (4, .int 0)]) [0, 4] rfl ?_
    exact law_fin C hX hbl hL ⟨by decide, by decide⟩
set_option maxRecDepth 100000 in
set_option maxHeartbeats 4000000 in
theorem law_slhSign (hl : l.stackTraces = false) {p : Program} {e : Env} {s : State} {m : MethodId} {below : List Frame} {meth : Method} {c : Code} {b L : Nat} {xs : Nat → Int32} {cells slots : Nat} (C : vC G s.heap.size p m meth c cL_law 8 (some .boolean) s #[Value.ref b] RL) (hX : va_X b L xs s s.heap) (hbl : b < s.heap.size) (hL : L = 6) {ad : Nat → Nat} {x4 x6 x7 : Nat} {σ : nS} {f0 : Nat → Int64} (I : nI1 ad 87) (F : CF G ad x4 x6 x7 σ) (h86 : σ 86 = eJ G 1 f0) (hA : RA G ad θc S0 [] 0 σ) : V G s.heap.size p l e room_1 s m #[Value.ref b] below meth c 8 200 2000000 (lw_Z below #[Value.ref b] s) (nW ad 87 σ) 746 [(0, .ref b), (1, .ref (ad 74)), (2, .ref (ad 49)), (3, .ref (ad 86)), (4, .int 0)] [] := by
  refine v_aload_n C eL_law_746 rfl 1 rfl ?_
  refine v_aload_n C eL_law_747 rfl 0 rfl ?_
  refine v_iload C eL_law_748 4 rfl ?_
  refine v_iconst (v := (1 : Int32)) C eL_law_750 (by decide) ?_
  refine v_iadd C eL_law_751 ?_
  refine g_sld C hX hbl (Nat.not_le.mpr hbl) 1 (by decide) (by omega) (by omega) eL_law_752 ?_
  refine v_aload_n C eL_law_753 rfl 0 rfl ?_
  refine v_iload C eL_law_754 4 rfl ?_
  refine v_iconst (v := (2 : Int32)) C eL_law_756 (by decide) ?_
  refine v_iadd C eL_law_757 ?_
  refine g_sld C hX hbl (Nat.not_le.mpr hbl) 2 (by decide) (by omega) (by omega) eL_law_758 ?_
  refine v_aload_n C eL_law_759 rfl 3 rfl ?_
  refine v_callW (av := [.ref (ad 74), .int (xs 1), .int (xs 2), .ref (ad 86)]) (rest := []) C mLW_slhSign (w_slhSign (θ := θc) hl I (fun k hk => hk) F h86 (xs 1) (xs 2)) ⟨by decide, by decide⟩ ⟨by decide, by decide⟩ rfl rfl (Nat.le_of_ble_eq_true rfl) eL_law_760 (fun r w' hp => ?_)
  obtain ⟨σ1, rfl, g1, rfl, g2⟩ := hp
  have hA1 : RA G ad θc S0 [] 0 σ1 := RA_keep hA g1
  refine v_istore (lv' := [(0, .ref b), (1, .ref (ad 74)), (2, .ref (ad 49)), (3, .ref (ad 86)), (4, .int ((0 : Int32))), (5, .int ((sp_sign θc S0 [] (xs 1) (xs 2)).1))]) C eL_law_763 (by decide) [1, 2, 3, 4, 5, 0] rfl ?_
  refine v_aload_n C eL_law_765 rfl 2 rfl ?_
  refine v_aload_n C eL_law_766 rfl 0 rfl ?_
  refine v_iload C eL_law_767 4 rfl ?_
  refine v_iconst (v := (1 : Int32)) C eL_law_769 (by decide) ?_
  refine v_iadd C eL_law_770 ?_
  refine g_sld C hX hbl (Nat.not_le.mpr hbl) 1 (by decide) (by omega) (by omega) eL_law_771 ?_
  refine v_aload_n C eL_law_772 rfl 0 rfl ?_
  refine v_iload C eL_law_773 4 rfl ?_
  refine v_iconst (v := (2 : Int32)) C eL_law_775 (by decide) ?_
  refine v_iadd C eL_law_776 ?_
  refine g_sld C hX hbl (Nat.not_le.mpr hbl) 2 (by decide) (by omega) (by omega) eL_law_777 ?_
  refine g_callV (As := [.int (xs 1), .int (xs 2)]) (rest := []) (b := 49) C I mL_102 (ra_slhSign I (fun k hk => by omega) hA1 (xs 1) (xs 2)) (by decide) (RA_obj hA1) ⟨by decide, by decide⟩ ⟨by decide, by decide⟩ rfl rfl (Nat.le_of_ble_eq_true rfl) eL_law_778 (fun r σ2 hp => ?_)
  obtain ⟨rfl, hA2, g3⟩ := hp
  refine v_istore (lv' := [(0, .ref b), (1, .ref (ad 74)), (2, .ref (ad 49)), (3, .ref (ad 86)), (4, .int ((0 : Int32))), (5, .int ((sp_sign θc S0 [] (xs 1) (xs 2)).1)), (6, .int ((sp_sign θc S0 [] (xs 1) (xs 2)).2.1))]) C eL_law_781 (by decide) [1, 2, 3, 4, 5, 6, 0] rfl ?_
  refine v_aload_n C eL_law_783 rfl 2 rfl ?_
  refine g_callV (As := []) (rest := []) (b := 49) C I mL_69 (ra_thrown I (fun k hk => by omega) hA2) (by decide) (RA_obj hA2) ⟨by decide, by decide⟩ ⟨by decide, by decide⟩ rfl rfl (Nat.le_of_ble_eq_true rfl) eL_law_784 (fun r σ3 hp => ?_)
  obtain ⟨rfl, rfl⟩ := hp
  refine v_iload C eL_law_787 5 rfl ?_
  refine v_icmp_eq (tgt := 794) C eL_law_789 (by decide) (fun _ => ?_) (fun h => absurd rfl h)
  refine v_iload C eL_law_794 5 rfl ?_
  refine v_if_ne (tgt := 811) C eL_law_796 (by decide) (fun c1 => ?_) (fun c1 => ?_)
  · refine v_goto (tgt := 993) C eL_law_811 (by decide) ?_
    refine v_pick (lv' := [(0, .ref b), (4, .int 0)]) [0, 4] rfl ?_
    exact law_fin C hX hbl hL ⟨by decide, by decide⟩
  · obtain ⟨f1, k1, k2⟩ := g2 c1
    have k3 : σ3 86 = eJ G 1 f1 := (g3 86 (by decide)).trans k1
    refine v_aload_n C eL_law_799 rfl 3 rfl ?_
    refine v_iconst (v := (0 : Int32)) C eL_law_800 (by decide) ?_
    refine n_lald C I eL_law_801 (by decide : 86 < 87) k3 0 (rfl : (0 : Int32) = nI 0) (by decide) (by decide) ?_
    refine v_iload C eL_law_802 6 rfl ?_
    refine v_i2l C eL_law_804 ?_
    refine v_lcmp C eL_law_805 ?_
    refine v_if_eq (tgt := 811) C eL_law_806 (by decide) (fun _ => ?_) (fun h => absurd (by rw [k2]; exact lg_cmp_self _) h)
    refine v_goto (tgt := 993) C eL_law_811 (by decide) ?_
    refine v_pick (lv' := [(0, .ref b), (4, .int 0)]) [0, 4] rfl ?_
    exact law_fin C hX hbl hL ⟨by decide, by decide⟩
set_option maxRecDepth 100000 in
set_option maxHeartbeats 4000000 in
theorem law_slhVerify (hl : l.stackTraces = false) {p : Program} {e : Env} {s : State} {m : MethodId} {below : List Frame} {meth : Method} {c : Code} {b L : Nat} {xs : Nat → Int32} {cells slots : Nat} (C : vC G s.heap.size p m meth c cL_law 8 (some .boolean) s #[Value.ref b] RL) (hX : va_X b L xs s s.heap) (hbl : b < s.heap.size) (hL : L = 6) {ad : Nat → Nat} {x4 x6 x7 : Nat} {σ : nS} {f0 : Nat → Int64} (I : nI1 ad 87) (F : CF G ad x4 x6 x7 σ) (h86 : σ 86 = eJ G 1 f0) (hA : RA G ad θc S0 [] 0 σ) : V G s.heap.size p l e room_1 s m #[Value.ref b] below meth c 8 200 2000000 (lw_Z below #[Value.ref b] s) (nW ad 87 σ) 814 [(0, .ref b), (1, .ref (ad 74)), (2, .ref (ad 49)), (3, .ref (ad 86)), (4, .int 0)] [] := by
  refine v_aload_n C eL_law_814 rfl 1 rfl ?_
  refine v_aload_n C eL_law_815 rfl 0 rfl ?_
  refine v_iload C eL_law_816 4 rfl ?_
  refine v_iconst (v := (1 : Int32)) C eL_law_818 (by decide) ?_
  refine v_iadd C eL_law_819 ?_
  refine g_sld C hX hbl (Nat.not_le.mpr hbl) 1 (by decide) (by omega) (by omega) eL_law_820 ?_
  refine v_aload_n C eL_law_821 rfl 0 rfl ?_
  refine v_iload C eL_law_822 4 rfl ?_
  refine v_iconst (v := (2 : Int32)) C eL_law_824 (by decide) ?_
  refine v_iadd C eL_law_825 ?_
  refine g_sld C hX hbl (Nat.not_le.mpr hbl) 2 (by decide) (by omega) (by omega) eL_law_826 ?_
  refine v_aload_n C eL_law_827 rfl 3 rfl ?_
  refine v_callW (av := [.ref (ad 74), .int (xs 1), .int (xs 2), .ref (ad 86)]) (rest := []) C mLW_slhVerify (w_slhVerify (θ := θc) hl I (fun k hk => hk) F h86 (xs 1) (xs 2)) ⟨by decide, by decide⟩ ⟨by decide, by decide⟩ rfl rfl (Nat.le_of_ble_eq_true rfl) eL_law_828 (fun r w' hp => ?_)
  obtain ⟨σ1, rfl, g1, rfl, g2⟩ := hp
  have hA1 : RA G ad θc S0 [] 0 σ1 := RA_keep hA g1
  refine v_istore (lv' := [(0, .ref b), (1, .ref (ad 74)), (2, .ref (ad 49)), (3, .ref (ad 86)), (4, .int ((0 : Int32))), (5, .int ((sp_verify θc S0 [] (xs 1) (xs 2)).1))]) C eL_law_831 (by decide) [1, 2, 3, 4, 5, 0] rfl ?_
  refine v_aload_n C eL_law_833 rfl 2 rfl ?_
  refine v_aload_n C eL_law_834 rfl 0 rfl ?_
  refine v_iload C eL_law_835 4 rfl ?_
  refine v_iconst (v := (1 : Int32)) C eL_law_837 (by decide) ?_
  refine v_iadd C eL_law_838 ?_
  refine g_sld C hX hbl (Nat.not_le.mpr hbl) 1 (by decide) (by omega) (by omega) eL_law_839 ?_
  refine v_aload_n C eL_law_840 rfl 0 rfl ?_
  refine v_iload C eL_law_841 4 rfl ?_
  refine v_iconst (v := (2 : Int32)) C eL_law_843 (by decide) ?_
  refine v_iadd C eL_law_844 ?_
  refine g_sld C hX hbl (Nat.not_le.mpr hbl) 2 (by decide) (by omega) (by omega) eL_law_845 ?_
  refine g_callV (As := [.int (xs 1), .int (xs 2)]) (rest := []) (b := 49) C I mL_105 (ra_slhVerify I (fun k hk => by omega) hA1 (xs 1) (xs 2)) (by decide) (RA_obj hA1) ⟨by decide, by decide⟩ ⟨by decide, by decide⟩ rfl rfl (Nat.le_of_ble_eq_true rfl) eL_law_846 (fun r σ2 hp => ?_)
  obtain ⟨rfl, hA2, g3⟩ := hp
  refine v_istore (lv' := [(0, .ref b), (1, .ref (ad 74)), (2, .ref (ad 49)), (3, .ref (ad 86)), (4, .int ((0 : Int32))), (5, .int ((sp_verify θc S0 [] (xs 1) (xs 2)).1)), (6, .int ((sp_verify θc S0 [] (xs 1) (xs 2)).2.1))]) C eL_law_849 (by decide) [1, 2, 3, 4, 5, 6, 0] rfl ?_
  refine v_aload_n C eL_law_851 rfl 2 rfl ?_
  refine g_callV (As := []) (rest := []) (b := 49) C I mL_69 (ra_thrown I (fun k hk => by omega) hA2) (by decide) (RA_obj hA2) ⟨by decide, by decide⟩ ⟨by decide, by decide⟩ rfl rfl (Nat.le_of_ble_eq_true rfl) eL_law_852 (fun r σ3 hp => ?_)
  obtain ⟨rfl, rfl⟩ := hp
  refine v_iload C eL_law_855 5 rfl ?_
  refine v_icmp_eq (tgt := 862) C eL_law_857 (by decide) (fun _ => ?_) (fun h => absurd rfl h)
  refine v_iload C eL_law_862 5 rfl ?_
  refine v_if_ne (tgt := 886) C eL_law_864 (by decide) (fun c1 => ?_) (fun c1 => ?_)
  · refine v_goto (tgt := 993) C eL_law_886 (by decide) ?_
    refine v_pick (lv' := [(0, .ref b), (4, .int 0)]) [0, 4] rfl ?_
    exact law_fin C hX hbl hL ⟨by decide, by decide⟩
  · obtain ⟨f1, k1, k2⟩ := g2 c1
    have k3 : σ3 86 = eJ G 1 f1 := (g3 86 (by decide)).trans k1
    refine v_aload_n C eL_law_867 rfl 3 rfl ?_
    refine v_iconst (v := (0 : Int32)) C eL_law_868 (by decide) ?_
    refine n_lald C I eL_law_869 (by decide : 86 < 87) k3 0 (rfl : (0 : Int32) = nI 0) (by decide) (by decide) ?_
    refine v_iload C eL_law_870 6 rfl ?_
    exact absurd c1 z_verifyN
set_option maxRecDepth 100000 in
set_option maxHeartbeats 4000000 in
theorem law_slhNode (hl : l.stackTraces = false) {p : Program} {e : Env} {s : State} {m : MethodId} {below : List Frame} {meth : Method} {c : Code} {b L : Nat} {xs : Nat → Int32} {cells slots : Nat} (C : vC G s.heap.size p m meth c cL_law 8 (some .boolean) s #[Value.ref b] RL) (hX : va_X b L xs s s.heap) (hbl : b < s.heap.size) (hL : L = 6) {ad : Nat → Nat} {x4 x6 x7 : Nat} {σ : nS} {f0 : Nat → Int64} (I : nI1 ad 87) (F : CF G ad x4 x6 x7 σ) (h86 : σ 86 = eJ G 1 f0) (hA : RA G ad θc S0 [] 0 σ) : V G s.heap.size p l e room_1 s m #[Value.ref b] below meth c 8 200 2000000 (lw_Z below #[Value.ref b] s) (nW ad 87 σ) 889 [(0, .ref b), (1, .ref (ad 74)), (2, .ref (ad 49)), (3, .ref (ad 86)), (4, .int 0)] [] := by
  refine v_aload_n C eL_law_889 rfl 1 rfl ?_
  refine v_aload_n C eL_law_890 rfl 0 rfl ?_
  refine v_iload C eL_law_891 4 rfl ?_
  refine v_iconst (v := (1 : Int32)) C eL_law_893 (by decide) ?_
  refine v_iadd C eL_law_894 ?_
  refine g_sld C hX hbl (Nat.not_le.mpr hbl) 1 (by decide) (by omega) (by omega) eL_law_895 ?_
  refine v_aload_n C eL_law_896 rfl 0 rfl ?_
  refine v_iload C eL_law_897 4 rfl ?_
  refine v_iconst (v := (2 : Int32)) C eL_law_899 (by decide) ?_
  refine v_iadd C eL_law_900 ?_
  refine g_sld C hX hbl (Nat.not_le.mpr hbl) 2 (by decide) (by omega) (by omega) eL_law_901 ?_
  refine v_aload_n C eL_law_902 rfl 0 rfl ?_
  refine v_iload C eL_law_903 4 rfl ?_
  refine v_iconst (v := (3 : Int32)) C eL_law_905 (by decide) ?_
  refine v_iadd C eL_law_906 ?_
  refine g_sld C hX hbl (Nat.not_le.mpr hbl) 3 (by decide) (by omega) (by omega) eL_law_907 ?_
  refine v_aload_n C eL_law_908 rfl 0 rfl ?_
  refine v_iload C eL_law_909 4 rfl ?_
  refine v_iconst (v := (4 : Int32)) C eL_law_911 (by decide) ?_
  refine v_iadd C eL_law_912 ?_
  refine g_sld C hX hbl (Nat.not_le.mpr hbl) 4 (by decide) (by omega) (by omega) eL_law_913 ?_
  refine v_aload_n C eL_law_914 rfl 0 rfl ?_
  refine v_iload C eL_law_915 4 rfl ?_
  refine v_iconst (v := (5 : Int32)) C eL_law_917 (by decide) ?_
  refine v_iadd C eL_law_918 ?_
  refine g_sld C hX hbl (Nat.not_le.mpr hbl) 5 (by decide) (by omega) (by omega) eL_law_919 ?_
  refine v_aload_n C eL_law_920 rfl 3 rfl ?_
  refine v_callW (av := [.ref (ad 74), .int (xs 1), .int (xs 2), .int (xs 3), .int (xs 4), .int (xs 5), .ref (ad 86)]) (rest := []) C mLW_slhNode (w_slhNode (θ := θc) hl I (fun k hk => hk) F h86 (xs 1) (xs 2) (xs 3) (xs 4) (xs 5)) ⟨by decide, by decide⟩ ⟨by decide, by decide⟩ rfl rfl (Nat.le_of_ble_eq_true rfl) eL_law_921 (fun r w' hp => ?_)
  obtain ⟨σ1, rfl, g1, rfl, g2⟩ := hp
  have hA1 : RA G ad θc S0 [] 0 σ1 := RA_keep hA g1
  refine v_istore (lv' := [(0, .ref b), (1, .ref (ad 74)), (2, .ref (ad 49)), (3, .ref (ad 86)), (4, .int ((0 : Int32))), (5, .int ((sp_node θc S0 [] (xs 1) (xs 2) (xs 3) (xs 4) (xs 5)).1))]) C eL_law_924 (by decide) [1, 2, 3, 4, 5, 0] rfl ?_
  refine v_aload_n C eL_law_926 rfl 2 rfl ?_
  refine v_aload_n C eL_law_927 rfl 0 rfl ?_
  refine v_iload C eL_law_928 4 rfl ?_
  refine v_iconst (v := (1 : Int32)) C eL_law_930 (by decide) ?_
  refine v_iadd C eL_law_931 ?_
  refine g_sld C hX hbl (Nat.not_le.mpr hbl) 1 (by decide) (by omega) (by omega) eL_law_932 ?_
  refine v_aload_n C eL_law_933 rfl 0 rfl ?_
  refine v_iload C eL_law_934 4 rfl ?_
  refine v_iconst (v := (2 : Int32)) C eL_law_936 (by decide) ?_
  refine v_iadd C eL_law_937 ?_
  refine g_sld C hX hbl (Nat.not_le.mpr hbl) 2 (by decide) (by omega) (by omega) eL_law_938 ?_
  refine v_aload_n C eL_law_939 rfl 0 rfl ?_
  refine v_iload C eL_law_940 4 rfl ?_
  refine v_iconst (v := (3 : Int32)) C eL_law_942 (by decide) ?_
  refine v_iadd C eL_law_943 ?_
  refine g_sld C hX hbl (Nat.not_le.mpr hbl) 3 (by decide) (by omega) (by omega) eL_law_944 ?_
  refine v_aload_n C eL_law_945 rfl 0 rfl ?_
  refine v_iload C eL_law_946 4 rfl ?_
  refine v_iconst (v := (4 : Int32)) C eL_law_948 (by decide) ?_
  refine v_iadd C eL_law_949 ?_
  refine g_sld C hX hbl (Nat.not_le.mpr hbl) 4 (by decide) (by omega) (by omega) eL_law_950 ?_
  refine v_aload_n C eL_law_951 rfl 0 rfl ?_
  refine v_iload C eL_law_952 4 rfl ?_
  refine v_iconst (v := (5 : Int32)) C eL_law_954 (by decide) ?_
  refine v_iadd C eL_law_955 ?_
  refine g_sld C hX hbl (Nat.not_le.mpr hbl) 5 (by decide) (by omega) (by omega) eL_law_956 ?_
  refine g_callV (As := [.int (xs 1), .int (xs 2), .int (xs 3), .int (xs 4), .int (xs 5)]) (rest := []) (b := 49) C I mL_108 (ra_slhNode I (fun k hk => by omega) hA1 (xs 1) (xs 2) (xs 3) (xs 4) (xs 5)) (by decide) (RA_obj hA1) ⟨by decide, by decide⟩ ⟨by decide, by decide⟩ rfl rfl (Nat.le_of_ble_eq_true rfl) eL_law_957 (fun r σ2 hp => ?_)
  obtain ⟨rfl, hA2, g3⟩ := hp
  refine v_istore (lv' := [(0, .ref b), (1, .ref (ad 74)), (2, .ref (ad 49)), (3, .ref (ad 86)), (4, .int ((0 : Int32))), (5, .int ((sp_node θc S0 [] (xs 1) (xs 2) (xs 3) (xs 4) (xs 5)).1)), (6, .int ((sp_node θc S0 [] (xs 1) (xs 2) (xs 3) (xs 4) (xs 5)).2.1))]) C eL_law_960 (by decide) [1, 2, 3, 4, 5, 6, 0] rfl ?_
  refine v_aload_n C eL_law_962 rfl 2 rfl ?_
  refine g_callV (As := []) (rest := []) (b := 49) C I mL_69 (ra_thrown I (fun k hk => by omega) hA2) (by decide) (RA_obj hA2) ⟨by decide, by decide⟩ ⟨by decide, by decide⟩ rfl rfl (Nat.le_of_ble_eq_true rfl) eL_law_963 (fun r σ3 hp => ?_)
  obtain ⟨rfl, rfl⟩ := hp
  refine v_iload C eL_law_966 5 rfl ?_
  refine v_icmp_eq (tgt := 973) C eL_law_968 (by decide) (fun _ => ?_) (fun h => absurd rfl h)
  refine v_iload C eL_law_973 5 rfl ?_
  refine v_if_ne (tgt := 990) C eL_law_975 (by decide) (fun c1 => ?_) (fun c1 => ?_)
  · refine v_goto (tgt := 993) C eL_law_990 (by decide) ?_
    refine v_pick (lv' := [(0, .ref b), (4, .int 0)]) [0, 4] rfl ?_
    exact law_fin C hX hbl hL ⟨by decide, by decide⟩
  · obtain ⟨f1, k1, k2⟩ := g2 c1
    have k3 : σ3 86 = eJ G 1 f1 := (g3 86 (by decide)).trans k1
    refine v_aload_n C eL_law_978 rfl 3 rfl ?_
    refine v_iconst (v := (0 : Int32)) C eL_law_979 (by decide) ?_
    refine n_lald C I eL_law_980 (by decide : 86 < 87) k3 0 (rfl : (0 : Int32) = nI 0) (by decide) (by decide) ?_
    refine v_iload C eL_law_981 6 rfl ?_
    refine v_i2l C eL_law_983 ?_
    refine v_lcmp C eL_law_984 ?_
    refine v_if_eq (tgt := 990) C eL_law_985 (by decide) (fun _ => ?_) (fun h => absurd (by rw [k2]; exact lg_cmp_self _) h)
    refine v_goto (tgt := 993) C eL_law_990 (by decide) ?_
    refine v_pick (lv' := [(0, .ref b), (4, .int 0)]) [0, 4] rfl ?_
    exact law_fin C hX hbl hL ⟨by decide, by decide⟩
end LA
