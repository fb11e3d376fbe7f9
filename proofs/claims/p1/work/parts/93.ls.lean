section LS
variable {G : vG} {l : Launch}
theorem CF_of {ad : Nat → Nat} {σ : nS} {o : Nat} {Lc : List (Nat × va_E)} (hI : cI G o Lc) (hc : ∀ k, k < 12 → (ad (74 + k), σ (74 + k)) = lK Lc (([0, 26, 25, 24, 23, 22, 21, 20, 19, 18, 17, 16] : List Nat).getD k 0)) : ad 74 = o ∧ CF G ad (lK Lc 15).1 (lK Lc 8).1 (lK Lc 1).1 σ := by
  obtain ⟨-, r, h0, h26, hr, h17, h16⟩ := hI
  have e0 : (ad 74, σ 74) = lK Lc 0 := hc 0 (by decide)
  have e1 : (ad 75, σ 75) = lK Lc 26 := hc 1 (by decide)
  have e10 : (ad 84, σ 84) = lK Lc 17 := hc 10 (by decide)
  have e11 : (ad 85, σ 85) = lK Lc 16 := hc 11 (by decide)
  have er : ∀ i, i < 8 → (ad (76 + i), σ (76 + i)) = (r i, eB G 65536 (fun _ => 0)) := fun i hi => by
    have h := hc (2 + i) (by omega)
    rw [show 74 + (2 + i) = 76 + i by omega] at h
    rw [h, ← hr i hi]
    congr 1
    rcases i with _ | _ | _ | _ | _ | _ | _ | _ | i <;> first | rfl | omega
  rw [← e1] at h26
  rw [← e10] at h17
  rw [← e11] at h16
  rw [← e0, ← e1, ← e10, ← e11] at h0
  have f1 : ad 74 = o := congrArg Prod.fst h0
  have f2 : σ 74 = _ := congrArg Prod.snd h0
  refine ⟨f1, f2, ?_, fun i hi => congrArg Prod.snd (er i hi), h17, h16⟩
  rw [show σ 75 = _ from h26]
  exact congrArg (eR G 8) (eRf_new (fun i hi => congrArg Prod.fst (er i hi)))
set_option maxRecDepth 100000 in
set_option maxHeartbeats 4000000 in
theorem law_turn (hl : l.stackTraces = false) {p : Program} {e : Env} {s : State} {m : MethodId} {below : List Frame} {meth : Method} {c : Code} {b L : Nat} {xs : Nat → Int32} (C : vC G s.heap.size p m meth c cL_law 8 (some .boolean) s #[Value.ref b] RL) (hX : va_X b L xs s s.heap) (hbl : b < s.heap.size) (hL : L ≤ 6) {ad : Nat → Nat} {x4 x6 x7 : Nat} {σ : nS} {f0 : Nat → Int64} (I : nI1 ad 87) (F : CF G ad x4 x6 x7 σ) (h86 : σ 86 = eJ G 1 f0) (hA : RA G ad θc S0 [] 0 σ) : V G s.heap.size p l e room_1 s m #[Value.ref b] below meth c 8 200 2000000 (lw_Z below #[Value.ref b] s) (nW ad 87 σ) 23 [(0, .ref b), (1, .ref (ad 74)), (2, .ref (ad 49)), (3, .ref (ad 86)), (4, .int 0)] [] := by
  refine v_iload C eL_law_23 4 rfl ?_
  refine v_aload_n C eL_law_25 rfl 0 rfl ?_
  refine g_slen C hX hbl (Nat.not_le.mpr hbl) eL_law_26 ?_
  refine v_bipush (v := (6 : Int32)) C eL_law_27 (by decide) ?_
  refine v_isub C eL_law_29 ?_
  by_cases h6 : L = 6
  · refine v_icmp_gt (tgt := 999) C eL_law_30 (by decide) (fun h => absurd h (by subst h6; decide)) (fun _ => ?_)
    refine v_aload_n C eL_law_33 rfl 0 rfl ?_
    refine v_iload C eL_law_34 4 rfl ?_
    refine g_sld C hX hbl (Nat.not_le.mpr hbl) 0 (by decide) (by omega) (by omega) eL_law_36 ?_
    refine v_bipush (v := (15 : Int32)) C eL_law_37 (by decide) ?_
    refine v_iand C eL_law_39 ?_
    rw [pk_and (xs 0) 4 (by decide)]
    have hk : (xs 0).toBitVec.toNat % 2 ^ 4 < 16 := Nat.mod_lt _ (by decide)
    generalize (xs 0).toBitVec.toNat % 2 ^ 4 = k at hk
    rcases k with _ | _ | _ | _ | _ | _ | _ | _ | _ | _ | _ | _ | k
    · refine v_tsw (tgt := 104) (off := 64) C eL_law_40 (by decide) (by decide) (by decide) (by decide) ?_
      exact law_feed (cells := 0) (slots := 0) hl C hX hbl h6 I F h86 hA
    · refine v_tsw (tgt := 208) (off := 168) C eL_law_40 (by decide) (by decide) (by decide) (by decide) ?_
      exact law_end (cells := 0) (slots := 0) hl C hX hbl h6 I F h86 hA
    · refine v_tsw (tgt := 276) (off := 236) C eL_law_40 (by decide) (by decide) (by decide) (by decide) ?_
      exact law_copy (cells := 0) (slots := 0) hl C hX hbl h6 I F h86 hA
    · refine v_tsw (tgt := 344) (off := 304) C eL_law_40 (by decide) (by decide) (by decide) (by decide) ?_
      exact law_resize (cells := 0) (slots := 0) hl C hX hbl h6 I F h86 hA
    · refine v_tsw (tgt := 412) (off := 372) C eL_law_40 (by decide) (by decide) (by decide) (by decide) ?_
      exact law_alter (cells := 0) (slots := 0) hl C hX hbl h6 I F h86 hA
    · refine v_tsw (tgt := 492) (off := 452) C eL_law_40 (by decide) (by decide) (by decide) (by decide) ?_
      exact law_length (cells := 0) (slots := 0) hl C hX hbl h6 I F h86 hA
    · refine v_tsw (tgt := 548) (off := 508) C eL_law_40 (by decide) (by decide) (by decide) (by decide) ?_
      exact law_word (cells := 0) (slots := 0) hl C hX hbl h6 I F h86 hA
    · refine v_tsw (tgt := 615) (off := 575) C eL_law_40 (by decide) (by decide) (by decide) (by decide) ?_
      exact law_same (cells := 0) (slots := 0) hl C hX hbl h6 I F h86 hA
    · refine v_tsw (tgt := 690) (off := 650) C eL_law_40 (by decide) (by decide) (by decide) (by decide) ?_
      exact law_slhKeys (cells := 0) (slots := 0) hl C hX hbl h6 I F h86 hA
    · refine v_tsw (tgt := 746) (off := 706) C eL_law_40 (by decide) (by decide) (by decide) (by decide) ?_
      exact law_slhSign (cells := 0) (slots := 0) hl C hX hbl h6 I F h86 hA
    · refine v_tsw (tgt := 814) (off := 774) C eL_law_40 (by decide) (by decide) (by decide) (by decide) ?_
      exact law_slhVerify (cells := 0) (slots := 0) hl C hX hbl h6 I F h86 hA
    · refine v_tsw (tgt := 889) (off := 849) C eL_law_40 (by decide) (by decide) (by decide) (by decide) ?_
      exact law_slhNode (cells := 0) (slots := 0) hl C hX hbl h6 I F h86 hA
    · refine g_tswN (tgt := 993) C eL_law_40 (Or.inr (by rw [nI_toInt (by omega)]; omega)) (by decide) ?_
      refine v_pick (lv' := [(0, .ref b), (4, .int 0)]) [0, 4] rfl ?_
      exact law_fin C hX hbl h6 ⟨by decide, by decide⟩
  · refine v_icmp_gt (tgt := 999) C eL_law_30 (by decide) (fun _ => ?_) (fun h => absurd ?_ h)
    · refine v_iconst (v := (1 : Int32)) C eL_law_999 (by decide) ?_
      exact law_ret C ⟨by decide, by decide⟩ eL_law_1000
    · have : ∀ n, n < 6 → nI n - 6 < 0 := by decide
      exact this L (by omega)
set_option maxRecDepth 100000 in
set_option maxHeartbeats 4000000 in
theorem law_start (hl : l.stackTraces = false) {p : Program} {e : Env} {s : State} {m : MethodId} {below : List Frame} {meth : Method} {c : Code} {b L : Nat} {xs : Nat → Int32} (C : vC G s.heap.size p m meth c cL_law 8 (some .boolean) s #[Value.ref b] RL) (hX : va_X b L xs s s.heap) (hbl : b < s.heap.size) (hL : L ≤ 6) : V G s.heap.size p l e room_1 s m #[Value.ref b] below meth c 8 0 0 (lw_Z below #[Value.ref b] s) (fun _ => none) 0 [(0, .ref b)] [] := by
  refine g_new C nwL_8 ⟨by decide, by decide⟩ eL_law_0 (fun x hx _ => ?_)
  refine v_dup C eL_law_3 rfl ?_
  refine g_callI (As := []) (rest := [.ref x]) C mL_59 k_X11 ⟨by decide, by decide⟩ ⟨by decide, by decide⟩ rfl rfl (Nat.le_of_ble_eq_true rfl) eL_law_4 (fun r w' hp => ?_)
  obtain ⟨rfl, Lc, hF, rfl, hcI⟩ := hp
  refine v_astore_n (lv' := [(0, .ref b), (1, .ref x)]) C eL_law_7 rfl (by decide) [1, 0] rfl ?_
  refine g_new C nwL_60 ⟨by decide, by decide⟩ eL_law_8 (fun y hy _ => ?_)
  refine v_dup C eL_law_11 rfl ?_
  refine g_callI (As := []) (rest := [.ref y]) C mL_62 (k_X12 hF hy hcI.1) ⟨by decide, by decide⟩ ⟨by decide, by decide⟩ rfl rfl (Nat.le_of_ble_eq_true rfl) eL_law_12 (fun r w' hp => ?_)
  obtain ⟨rfl, ad, σ, rfl, I, hA, h49, hc⟩ := hp
  refine v_astore_n (lv' := [(0, .ref b), (1, .ref x), (2, .ref y)]) C eL_law_15 rfl (by decide) [1, 2, 0] rfl ?_
  refine v_iconst (v := (1 : Int32)) C eL_law_16 (by decide) ?_
  refine g_newJ (n := 1) C eL_law_17 (by decide) (by decide) ⟨by decide, by decide⟩ (fun z hz _ => ?_)
  refine v_astore_n (lv' := [(0, .ref b), (1, .ref x), (2, .ref y), (3, .ref z)]) C eL_law_19 rfl (by decide) [1, 2, 3, 0] rfl ?_
  refine v_iconst (v := (0 : Int32)) C eL_law_20 (by decide) ?_
  refine v_istore (lv' := [(0, .ref b), (1, .ref x), (2, .ref y), (3, .ref z), (4, .int 0)]) C eL_law_21 (by decide) [1, 2, 3, 4, 0] rfl ?_
  refine v_wide (k := 200) (n := 2000000) (by decide) (by decide) ?_
  obtain ⟨f74, hCF⟩ := CF_of hcI hc
  obtain ⟨I', hsub⟩ := nW_new (x := eJ G 1 (fun _ => 0)) I hz
  refine v_sub hsub ?_
  have ea : ∀ k, k < 86 → snoc ad 86 z k = ad k := fun k hk => snoc_lt hk
  have eσ : ∀ k, k < 86 → va_up σ 86 (eJ G 1 (fun _ => 0)) k = σ k := fun k hk => n_ne (by omega)
  have F' : CF G (snoc ad 86 z) (lK Lc 15).1 (lK Lc 8).1 (lK Lc 1).1 (va_up σ 86 (eJ G 1 (fun _ => 0))) := by
    obtain ⟨g1, g2, g3, g4, g5⟩ := hCF
    refine ⟨?_, ?_, fun i hi => ?_, ?_, ?_⟩
    · rw [eσ 74 (by decide), ea 75 (by decide), ea 84 (by decide), ea 85 (by decide)]; exact g1
    · rw [eσ 75 (by decide), g2]
      exact congrArg (eR G 8) (eRf_new (fun i hi => ea (76 + i) (by omega)))
    · rw [eσ (76 + i) (by omega)]; exact g3 i hi
    · rw [eσ 84 (by decide)]; exact g4
    · rw [eσ 85 (by decide)]; exact g5
  have hA' : RA G (snoc ad 86 z) θc S0 [] 0 (va_up σ 86 (eJ G 1 (fun _ => 0))) := RA_ad (RA_keep hA (fun j hj => eσ j (by omega))) (fun j hj => ea j (by omega))
  refine v_eq (lv' := [(0, .ref b), (1, .ref (snoc ad 86 z 74)), (2, .ref (snoc ad 86 z 49)), (3, .ref (snoc ad 86 z 86)), (4, .int 0)]) rfl (by rw [ea 74 (by decide), ea 49 (by decide), snoc_at, f74, h49]) rfl ?_
  exact law_turn hl C hX hbl hL I' F' n_self hA'
end LS
theorem whole_start {p : Program} {e : Env} {s : State} {m : MethodId} {below : List Frame} {meth : Method} {c : Code} (l : Launch) (hl : l.stackTraces = false) {b L : Nat} {xs : Nat → Int32} (hL : L ≤ 6) (C0 : lw_At p s m meth c b L xs) : W p l e room_1 s m #[Value.ref b] below meth c s.heap [] 0 0 (lw_Z below #[Value.ref b] s) (entryFrame m ([Value.ref b] : List Value).toArray 8) := by
  obtain ⟨hx, hb, hr, hml, hown, hts, hX, hbl, hlocks, hgv⟩ := id C0
  obtain ⟨G, hE⟩ := st_env hts hgv
  have C : vC G s.heap.size p m meth c cL_law 8 (some .boolean) s #[Value.ref b] RL := ⟨⟨hx, hb, hml, hown, fun w hw => hts w (List.mem_filter.mp hw).1⟩, hE, hr, hlocks⟩
  have hl0 := lv_entry ([.ref b]) (n := 8) (Nat.le_of_ble_eq_true rfl)
  rw [lg_entry_eq]
  exact law_start hl C hX hbl hL s.heap [] _ ⟨[], fun k q h => by simp at h, ⟨fun i j p q h => by simp at h, fun k q h => by simp at h⟩, fun a e h => by cases h⟩ va_S.rf hl0
set_option maxHeartbeats 4000000 in
theorem lw_walk (l : Launch) (hl : l.stackTraces = false) (b : Addr) (xs : List Int32) : MetFree l x (headSpec (Jvm.Cond.code x code maxLocals ret :: tables_1) room_1) (lw_P b xs) (fun _ _ _ _ _ => True) lw_Q := by
  refine MetFree.of_bodyS (code := code) (maxLocals := maxLocals) (ret := ret) (by decide) ?_ ?_
  · intro args s m h hn
    obtain ⟨meth, c, h1, h2, h3, h4, h5, h6, -, -⟩ := Cond.code_spec hn (atoms_spec (ws := Jvm.Cond.code x code maxLocals ret :: tables_1) h _ List.mem_cons_self)
    exact ⟨meth, c, h1, h2, h3, h4, h5, h6⟩
  · intro p e s m args below meth c s₁ B hml0 hP _
    obtain ⟨rfl, hx, hbd, hgv⟩ := hP
    obtain ⟨scr, harrAt, hlist, hof, hsmall⟩ := hx
    obtain ⟨hcb, hkn, -, -⟩ := State.arrayAt?_spec harrAt
    have hown : s.vm.findClass R_law = some m.cls := findClass_of_methodNamed B.named
    have hts0 : ∀ c ∈ (Jvm.Cond.code x code maxLocals ret :: tables_1), c.before #[Value.ref b] s = true := atoms_spec (ws := Jvm.Cond.code x code maxLocals ret :: tables_1) B.pre
    have hts : ∀ w ∈ lw_tbl, w.before #[Value.ref b] s = true := k2_hts_sels lw_privs (fun w hw => hts0 w (List.mem_cons_of_mem _ hw)) lw_privs_ok
    have hml : c.maxLocals = 8 := B.maxLocals_eq (hts0 _ List.mem_cons_self)
    have X₀ : Stand p l e room_1 s m #[Value.ref b] below meth c s₁ [] 0 0 := Stand.of_body B
    have hh0 : s₁.heap = s.heap := by rw [B.state]; rfl
    have hsz : scr.slots.size = xs.length := by rw [← Array.length_toList, hlist, List.length_map]
    have hval : ∀ j : Nat, j < xs.length → scr.slots[j]? = some (.int (xs.getD j 0)) := fun j hj => by
      rw [← Array.getElem?_toList, hlist]
      simp [hj]
    have hbl : b < s.heap.size := (Array.getElem?_eq_some_iff.mp hcb).1
    have hX : va_X b xs.length (fun j => xs.getD j 0) s s.heap := ⟨scr, hcb, hof, hkn, hsz, hval⟩
    have K : W p l e room_1 s m #[Value.ref b] below meth c s₁.heap [] 0 0 (lw_Z below #[Value.ref b] s) (entryFrame m ([Value.ref b] : List Value).toArray 8) := by
      rw [hh0]
      exact whole_start l hl hbd ⟨B.exec, B.bytes, B.returns, hml, hown, hts, hX, hbl, B.notSynchronized, hgv⟩
    obtain ⟨t, a1, o, b1, b2, b3⟩ := K s₁ rfl X₀
    exact ⟨t, o, a1, b1, b2, b3⟩
theorem lw_pre_spec {args : Array Value} {s : State} (h : (Jvm.Cond.and given_1 narrow_1).before args s = true) (hr : rest_1_c.before args s = true) : ∃ (b : Addr) (xs : List Int32), lw_P b xs args s := by
  have hs := flat_of_before _ h
  have hq := flat_of_before _ hr
  have hc : (Cond.count 1).before args s = true := hs _ (by decide +kernel)
  have harr : (Cond.arrayOf (.arg 0) .int).before args s = true := hs _ (by decide +kernel)
  have hle : (Cond.le (.length (.arg 0)) (.int 6)).before args s = true := hs _ (by decide +kernel)
  have hlen : (Cond.isInt (.length (.arg 0))).before args s = true := hq _ (by decide +kernel)
  have hall : (Cond.all (.arg 0) (.isInt (.elem (.arg 0) (.index 0)))).before args s = true := hq _ (by decide +kernel)
  obtain ⟨b, xs, hb, hx⟩ := State.ints_of_pre rfl harr hlen hall
  have hsm : xs.length < 2 ^ 31 := hx.choose_spec.2.2.2
  have hev : (Term.length (.arg 0)).eval args s none [] s = some (.int xs.length.toInt32) := hx.length_eval hb
  have hv := Cond.le_ints hev (show (Term.int 6).eval args s none [] s = some (.int 6) from rfl)
  have hd : xs.length.toInt32 ≤ 6 := by
    simpa [Cond.before, Cond.holds, hv] using hle
  have hN : xs.length ≤ 6 := (Int32.ofNat_le_ofNat hsm (by decide)).mp (show Int32.ofNat xs.length ≤ Int32.ofNat 6 from hd)
  exact ⟨b, xs, Cond.one_arg hc (show args[0]? = some (.ref b) from hb), hx, hN, h⟩
theorem lw_comes (l : Launch) (hl : l.stackTraces = false) : Comes l x (Jvm.Cond.code x code maxLocals ret :: tables_1) room_1 (fun tb e args s => Calls_1 tb e args s ∧ rest_1 tb e args s ∧ Pre_1 tb e args s)
    (fun _ _ args s o t => lw_Q args s o t) := by
  intro p e ha hc hk s m args below hf hfit hheap happ hpre
  obtain ⟨b, xs, hP⟩ := lw_pre_spec hpre.2.2 hpre.2.1
  obtain ⟨k, o, h1, h2, h3, hQ⟩ := lw_walk l hl b xs p e ha hc hk s m args below hf ((Spec.applies_iff_loose hf).mp happ).1 hP trivial
  exact ⟨k, o, h1, h2, h3, hQ⟩
theorem lw_frame {s t : State} {o : Outcome} {args : Array Value} (h : Framed s o t [] 600002 7302232) :
    Framed s o t (fieldLocs frame_1_writes args s ++ arrayLocs frame_1_arrays args s ++ staticLocs frame_1_statics s) 600002 7302232 := h
theorem lw_limb (L : Cond) (hL : ∀ (args : Array Value) (s t : State), L.after args s (.returned (some (.int 1))) t = true) :
    ArmFor flags0 classFile x code maxLocals ret World_1 tables_1 room_1 Calls_1 rest_1 Pre_1
      (fun tb e a s o t => postC L tb e a s o t ∧ Framed s o t (fieldLocs frame_1_writes a s ++ arrayLocs frame_1_arrays a s ++ staticLocs frame_1_statics s) 600002 7302232) := by
  intro l hfl _ _ p e ha hc hk s m args below hf hfit hheap happ hpre
  have hl : l.stackTraces = false := by
    unfold Launch.stackTraces
    rw [hfl]
    decide
  obtain ⟨k, o, h1, h2, h3, rfl, hF⟩ := lw_comes l hl p e ha hc hk s m args below hf hfit hheap happ hpre
  exact ⟨k, _, h1, h2, h3, hL args s _, lw_frame hF⟩
theorem i_vc : Claimed_1_1 ∧ Claimed_1_2 := ⟨lw_limb limb_1_1 (fun args s t => by simp [limb_1_1, Cond.after, Cond.holds, Cond.value]), lw_limb limb_1_2 (fun args s t => Cond.after_iff.mpr (by
  first | (rw [show limb_1_2 = Cond.eq .result (.int 1) from rfl, Cond.eq_ints (x := 1) (y := 1) rfl rfl]; simp; done) | (simp [limb_1_2, Cond.value, Term.eval]; done)))⟩
