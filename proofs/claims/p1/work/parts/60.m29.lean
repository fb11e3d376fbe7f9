/-- R of a signature -/
def rnL (θ : tT) (sh : Bool) (nn : Nat) (prf opt M : List Int32) : List Int32 := if sh then dgL θ 12 nn (prf ++ opt ++ M) else dgL θ (if nn = 16 then 1 else 3) nn (xorL 92 prf (bsz (if nn = 16 then 1 else 3)) ++ dgL θ (if nn = 16 then 1 else 3) (dsz (if nn = 16 then 1 else 3)) (xorL 54 prf (bsz (if nn = 16 then 1 else 3)) ++ opt ++ M))
theorem rnL_len {θ : tT} {sh : Bool} {nn : Nat} {prf opt M : List Int32} : (rnL θ sh nn prf opt M).length = nn := by
  unfold rnL
  split <;> exact dgL_len
theorem nrw_rnL {θ : tT} {sh : Bool} {nn : Nat} {prf opt M : List Int32} : nrw (rnL θ sh nn prf opt M) := by
  unfold rnL
  split <;> exact nrw_dgL
theorem nrw_nil : nrw [] := fun _ h => by cases h
theorem nrw_cat {f : Nat → List Int32} (h : ∀ i, nrw (f i)) : ∀ n, nrw (cat f n)
  | 0 => nrw_nil
  | n + 1 => nrw_app (nrw_cat h n) (h n)
section M29
variable {G : vG} {B : Nat} {l : Launch} {ad : Nat → Nat} {N : Nat} {θ : tT} {x : Nat → Int32} {σ : nS} {sh : Bool} {nn : Nat} {P H K : List Int32}
theorem nrw_chL {px py i : Nat} {d : List Int32} (hd : nrw d) : ∀ n, nrw (chL (fF θ sh nn P H) px py i n d)
  | 0 => hd
  | _ + 1 => nrw_fF _ _ _ _ _
theorem nrw_fnL {i : Nat} : ∀ z j, nrw (fnL (fF θ sh nn P H) K i z j)
  | 0, _ => nrw_fF _ _ _ _ _
  | _ + 1, _ => nrw_fF _ _ _ _ _
theorem nrw_sgL {c hh i : Nat} {D : Nat → Nat} : nrw (sgL (fF θ sh nn P H) K c hh D i) := nrw_app (nrw_cat (fun _ => nrw_chL (nrw_fF _ _ _ _ _) _) _) (nrw_cat (fun _ => nrw_nodeL _ _) _)
theorem nrw_sfL {T : List Int32} {aa tt i : Nat} : nrw (sfL (fF θ sh nn P H) K T aa tt i) := nrw_cat (fun _ => nrw_app (nrw_fF _ _ _ _ _) (nrw_cat (fun _ => nrw_fnL _ _) _)) _
theorem sgL_len {c hh i : Nat} {D : Nat → Nat} : (sgL (fF θ sh nn P H) K c hh D i).length = (c + hh) * nn := by
  unfold sgL
  rw [List.length_append, cat_len sgC_len, cat_len sgP_len, Nat.add_mul]
theorem sfL_len {T : List Int32} {aa tt i : Nat} : (sfL (fF θ sh nn P H) K T aa tt i).length = tt * ((1 + aa) * nn) := cat_len sfB_len tt
set_option maxRecDepth 100000 in
set_option maxHeartbeats 4000000 in
theorem rs_signA (I : nI1 ad N) (hN : ∀ k, k < 74 → k < N) {p : Program} {e : Env} {R : Room} {s : State} {m : MethodId} {args : Array Value} {below : List Frame} {meth : Method} {c : Code} {Q : State → Prop} (C : vC G B p m meth c cX12_slhSign 8 (some .int) s args yX12_slhSign.cls) (hC : RS G ad θ x σ) (hw : Bool) (h41 : x 41 = nI nn) (hnn : nn = 16 ∨ nn = 24 ∨ nn = 32) {l0 : Nat} (h0 : bt σ 2 0 = nI l0) (hl0 : l0 ≤ 65536) (hn0 : ¬ l0 = 0 → nrw (sl (bt σ 50) 0 nn)) (hn2 : nrw (sl (bt σ 52) 0 (4 * nn))) {d1 : Nat} (hR : R = vRm d1 0 0) (hd1 : 4 ≤ d1) (kk : ∀ σ', (RS G ad θ x σ' ∧ (∀ k, ¬ (k = 37 ∨ k = 38 ∨ k = 39 ∨ k = 40) → σ' k = σ k) ∧ sl (bt σ' 38) 0 nn = sl (bt σ 52) 0 nn ∧ sl (bt σ' 37) 0 nn = sl (bt σ 52) (2 * nn) nn ∧ sl (bt σ' 40) 0 nn = sl (bt σ 52) (3 * nn) nn ∧ sl (bt σ' 39) 0 nn = (if l0 = 0 then sl (bt σ 52) (2 * nn) nn else sl (bt σ 50) 0 nn)) → V G B p l e R s m args below meth c 8 0 0 Q (nW ad N σ') 214 [(0, .ref (ad 49)), (2, .int (howI hw))] []) : V G B p l e R s m args below meth c 8 0 0 Q (nW ad N σ) 112 [(0, .ref (ad 49)), (2, .int (howI hw))] [] := by
  subst hR
  refine v_aload_n C eX12_slhSign_112 rfl 0 rfl ?_
  refine n_get C I fX12_16_X12 eX12_slhSign_113 (hN 49 (by decide)) hC.obj rfl ?_
  refine v_iconst (v := (2 : Int32)) C eX12_slhSign_116 (by decide) ?_
  refine n_aald (b := ad 52) C I eX12_slhSign_117 (hN 1 (by decide)) hC.slot 2 (rfl : (2 : Int32) = nI 2) (by omega) (by decide) (eRf_at (by omega)) ?_
  refine v_iconst (v := (0 : Int32)) C eX12_slhSign_118 (by decide) ?_
  refine v_aload_n C eX12_slhSign_119 rfl 0 rfl ?_
  refine n_get C I fX12_111_X12 eX12_slhSign_120 (hN 49 (by decide)) hC.obj rfl ?_
  refine v_iconst (v := (0 : Int32)) C eX12_slhSign_123 (by decide) ?_
  refine v_aload_n C eX12_slhSign_124 rfl 0 rfl ?_
  refine n_get C I fX12_243_X12 eX12_slhSign_125 (hN 49 (by decide)) hC.obj rfl ?_
  refine n_callS (av := [.ref (ad 52), .int (nI 0), .ref (ad 38), .int (nI 0), .int (nI nn)]) (rest := []) C mX12_239 (rs_mv I hN hC (kx := 52) (nx := 65536) (ko := 38) (no := 32) rfl (by decide) rfl (by decide) (by decide) 0 0 nn (by omega) (by omega) (by exact nrw_sub hn2 (by omega) (by omega))) rfl (by omega) (by decide) ⟨by decide, by decide⟩ rfl (vi_c (hC.i41.trans h41) (vi_c (rfl : (0 : Int32) = nI 0) (vi_k (vi_c (rfl : (0 : Int32) = nI 0) (vi_k rfl))))) (Nat.le_of_ble_eq_true rfl) eX12_slhSign_128 (fun r σ1 hp => ?_)
  obtain ⟨rfl, hC1, hk1, hv1⟩ := hp
  refine v_aload_n C eX12_slhSign_131 rfl 0 rfl ?_
  refine n_get C I fX12_16_X12 eX12_slhSign_132 (hN 49 (by decide)) hC1.obj rfl ?_
  refine v_iconst (v := (2 : Int32)) C eX12_slhSign_135 (by decide) ?_
  refine n_aald (b := ad 52) C I eX12_slhSign_136 (hN 1 (by decide)) hC1.slot 2 (rfl : (2 : Int32) = nI 2) (by omega) (by decide) (eRf_at (by omega)) ?_
  refine v_iconst (v := (2 : Int32)) C eX12_slhSign_137 (by decide) ?_
  refine v_aload_n C eX12_slhSign_138 rfl 0 rfl ?_
  refine n_get C I fX12_243_X12 eX12_slhSign_139 (hN 49 (by decide)) hC1.obj rfl ?_
  refine v_imul C eX12_slhSign_142 ?_
  refine v_aload_n C eX12_slhSign_143 rfl 0 rfl ?_
  refine n_get C I fX12_108_X12 eX12_slhSign_144 (hN 49 (by decide)) hC1.obj rfl ?_
  refine v_iconst (v := (0 : Int32)) C eX12_slhSign_147 (by decide) ?_
  refine v_aload_n C eX12_slhSign_148 rfl 0 rfl ?_
  refine n_get C I fX12_243_X12 eX12_slhSign_149 (hN 49 (by decide)) hC1.obj rfl ?_
  refine n_callS (av := [.ref (ad 52), .int (nI (2 * nn)), .ref (ad 37), .int (nI 0), .int (nI nn)]) (rest := []) C mX12_239 (rs_mv I hN hC1 (kx := 52) (nx := 65536) (ko := 37) (no := 32) rfl (by decide) rfl (by decide) (by decide) (2 * nn) 0 nn (by omega) (by omega) (by rw [bt_same (hk1 52 (by decide))]; exact nrw_sub hn2 (by omega) (by omega))) rfl (by omega) (by decide) ⟨by decide, by decide⟩ rfl (vi_c (hC1.i41.trans h41) (vi_c (rfl : (0 : Int32) = nI 0) (vi_k (vi_c (ix_mul (a := 2) (b := nn) (rfl : (2 : Int32) = nI 2) (hC1.i41.trans h41)) (vi_k rfl))))) (Nat.le_of_ble_eq_true rfl) eX12_slhSign_152 (fun r σ2 hp => ?_)
  obtain ⟨rfl, hC2, hk2, hv2⟩ := hp
  refine v_aload_n C eX12_slhSign_155 rfl 0 rfl ?_
  refine n_get C I fX12_16_X12 eX12_slhSign_156 (hN 49 (by decide)) hC2.obj rfl ?_
  refine v_iconst (v := (2 : Int32)) C eX12_slhSign_159 (by decide) ?_
  refine n_aald (b := ad 52) C I eX12_slhSign_160 (hN 1 (by decide)) hC2.slot 2 (rfl : (2 : Int32) = nI 2) (by omega) (by decide) (eRf_at (by omega)) ?_
  refine v_iconst (v := (3 : Int32)) C eX12_slhSign_161 (by decide) ?_
  refine v_aload_n C eX12_slhSign_162 rfl 0 rfl ?_
  refine n_get C I fX12_243_X12 eX12_slhSign_163 (hN 49 (by decide)) hC2.obj rfl ?_
  refine v_imul C eX12_slhSign_166 ?_
  refine v_aload_n C eX12_slhSign_167 rfl 0 rfl ?_
  refine n_get C I fX12_117_X12 eX12_slhSign_168 (hN 49 (by decide)) hC2.obj rfl ?_
  refine v_iconst (v := (0 : Int32)) C eX12_slhSign_171 (by decide) ?_
  refine v_aload_n C eX12_slhSign_172 rfl 0 rfl ?_
  refine n_get C I fX12_243_X12 eX12_slhSign_173 (hN 49 (by decide)) hC2.obj rfl ?_
  refine n_callS (av := [.ref (ad 52), .int (nI (3 * nn)), .ref (ad 40), .int (nI 0), .int (nI nn)]) (rest := []) C mX12_239 (rs_mv I hN hC2 (kx := 52) (nx := 65536) (ko := 40) (no := 32) rfl (by decide) rfl (by decide) (by decide) (3 * nn) 0 nn (by omega) (by omega) (by rw [bt_same (hk2 52 (by decide)), bt_same (hk1 52 (by decide))]; exact nrw_sub hn2 (by omega) (by omega))) rfl (by omega) (by decide) ⟨by decide, by decide⟩ rfl (vi_c (hC2.i41.trans h41) (vi_c (rfl : (0 : Int32) = nI 0) (vi_k (vi_c (ix_mul (a := 3) (b := nn) (rfl : (3 : Int32) = nI 3) (hC2.i41.trans h41)) (vi_k rfl))))) (Nat.le_of_ble_eq_true rfl) eX12_slhSign_176 (fun r σ3 hp => ?_)
  obtain ⟨rfl, hC3, hk3, hv3⟩ := hp
  have h38 : sl (bt σ3 38) 0 nn = sl (bt σ 52) 0 nn := by rw [bt_same (hk3 38 (by decide)), bt_same (hk2 38 (by decide)), hv1, sl_wr' sl_len]
  have h37 : sl (bt σ3 37) 0 nn = sl (bt σ 52) (2 * nn) nn := by rw [bt_same (hk3 37 (by decide)), hv2, sl_wr' sl_len, bt_same (hk1 52 (by decide))]
  have h40 : sl (bt σ3 40) 0 nn = sl (bt σ 52) (3 * nn) nn := by rw [hv3, sl_wr' sl_len, bt_same (hk2 52 (by decide)), bt_same (hk1 52 (by decide))]
  have k3 : ∀ k, ¬ (k = 37 ∨ k = 38 ∨ k = 40) → σ3 k = σ k := fun k hk => (hk3 k (by omega)).trans ((hk2 k (by omega)).trans (hk1 k (by omega)))
  refine v_aload_n C eX12_slhSign_179 rfl 0 rfl ?_
  refine n_get C I fX12_19_X12 eX12_slhSign_180 (hN 49 (by decide)) hC3.obj rfl ?_
  refine v_iconst (v := (0 : Int32)) C eX12_slhSign_183 (by decide) ?_
  refine n_iald C I eX12_slhSign_184 (hN 2 (by decide)) hC3.len 0 (rfl : (0 : Int32) = nI 0) (by omega) (by decide) ?_
  by_cases c : l0 = 0
  · refine v_if_ne (tgt := 195) C eX12_slhSign_185 (by decide) (fun h => absurd (ix_eq (a := l0) (b := 0) (by rw [bt_same (k3 2 (by decide))]; exact h0) (rfl : (0 : Int32) = nI 0) (by omega) (by omega) (by omega)) h) (fun _ => ?_)
    refine v_aload_n C eX12_slhSign_188 rfl 0 rfl ?_
    refine n_get C I fX12_108_X12 eX12_slhSign_189 (hN 49 (by decide)) hC3.obj rfl ?_
    refine v_goto (tgt := 201) C eX12_slhSign_192 (by decide) ?_
    refine v_iconst (v := (0 : Int32)) C eX12_slhSign_201 (by decide) ?_
    refine v_aload_n C eX12_slhSign_202 rfl 0 rfl ?_
    refine n_get C I fX12_114_X12 eX12_slhSign_203 (hN 49 (by decide)) hC3.obj rfl ?_
    refine v_iconst (v := (0 : Int32)) C eX12_slhSign_206 (by decide) ?_
    refine v_aload_n C eX12_slhSign_207 rfl 0 rfl ?_
    refine n_get C I fX12_243_X12 eX12_slhSign_208 (hN 49 (by decide)) hC3.obj rfl ?_
    refine n_callS (av := [.ref (ad 37), .int (nI 0), .ref (ad 39), .int (nI 0), .int (nI nn)]) (rest := []) C mX12_239 (rs_mv I hN hC3 (kx := 37) (nx := 32) (ko := 39) (no := 32) rfl (by decide) rfl (by decide) (by decide) 0 0 nn (by omega) (by omega) (by rw [h37]; exact nrw_sub hn2 (by omega) (by omega))) rfl (by omega) (by decide) ⟨by decide, by decide⟩ rfl (vi_c (hC3.i41.trans h41) (vi_c (rfl : (0 : Int32) = nI 0) (vi_k (vi_c (rfl : (0 : Int32) = nI 0) (vi_k rfl))))) (Nat.le_of_ble_eq_true rfl) eX12_slhSign_211 (fun r σ4 hp => ?_)
    obtain ⟨rfl, hC4, hk4, hv4⟩ := hp
    refine kk σ4 ⟨hC4, fun k hk => (hk4 k (by omega)).trans (k3 k (by omega)), by rw [bt_same (hk4 38 (by decide)), h38], by rw [bt_same (hk4 37 (by decide)), h37], by rw [bt_same (hk4 40 (by decide)), h40], ?_⟩
    rw [if_pos c, hv4, sl_wr' sl_len, h37]
  · refine v_if_ne (tgt := 195) C eX12_slhSign_185 (by decide) (fun _ => ?_) (fun h => absurd h (ix_ne (a := l0) (b := 0) (by rw [bt_same (k3 2 (by decide))]; exact h0) (rfl : (0 : Int32) = nI 0) (by omega) (by omega) (by omega)))
    refine v_aload_n C eX12_slhSign_195 rfl 0 rfl ?_
    refine n_get C I fX12_16_X12 eX12_slhSign_196 (hN 49 (by decide)) hC3.obj rfl ?_
    refine v_iconst (v := (0 : Int32)) C eX12_slhSign_199 (by decide) ?_
    refine n_aald (b := ad 50) C I eX12_slhSign_200 (hN 1 (by decide)) hC3.slot 0 (rfl : (0 : Int32) = nI 0) (by omega) (by decide) (eRf_at (by omega)) ?_
    refine v_iconst (v := (0 : Int32)) C eX12_slhSign_201 (by decide) ?_
    refine v_aload_n C eX12_slhSign_202 rfl 0 rfl ?_
    refine n_get C I fX12_114_X12 eX12_slhSign_203 (hN 49 (by decide)) hC3.obj rfl ?_
    refine v_iconst (v := (0 : Int32)) C eX12_slhSign_206 (by decide) ?_
    refine v_aload_n C eX12_slhSign_207 rfl 0 rfl ?_
    refine n_get C I fX12_243_X12 eX12_slhSign_208 (hN 49 (by decide)) hC3.obj rfl ?_
    refine n_callS (av := [.ref (ad 50), .int (nI 0), .ref (ad 39), .int (nI 0), .int (nI nn)]) (rest := []) C mX12_239 (rs_mv I hN hC3 (kx := 50) (nx := 65536) (ko := 39) (no := 32) rfl (by decide) rfl (by decide) (by decide) 0 0 nn (by omega) (by omega) (by rw [bt_same (k3 50 (by decide))]; exact hn0 c)) rfl (by omega) (by decide) ⟨by decide, by decide⟩ rfl (vi_c (hC3.i41.trans h41) (vi_c (rfl : (0 : Int32) = nI 0) (vi_k (vi_c (rfl : (0 : Int32) = nI 0) (vi_k rfl))))) (Nat.le_of_ble_eq_true rfl) eX12_slhSign_211 (fun r σ4 hp => ?_)
    obtain ⟨rfl, hC4, hk4, hv4⟩ := hp
    refine kk σ4 ⟨hC4, fun k hk => (hk4 k (by omega)).trans (k3 k (by omega)), by rw [bt_same (hk4 38 (by decide)), h38], by rw [bt_same (hk4 37 (by decide)), h37], by rw [bt_same (hk4 40 (by decide)), h40], ?_⟩
    rw [if_neg c, hv4, sl_wr' sl_len, bt_same (k3 50 (by decide))]

set_option maxRecDepth 100000 in
set_option maxHeartbeats 4000000 in
theorem rs_signB12 (I : nI1 ad N) (hN : ∀ k, k < 74 → k < N) {p : Program} {e : Env} {R : Room} {s : State} {m : MethodId} {args : Array Value} {below : List Frame} {meth : Method} {c : Code} {Q : State → Prop} (C : vC G B p m meth c cX12_slhSign 8 (some .int) s args yX12_slhSign.cls) (hC : RS G ad θ x σ) (hw : Bool) (h41 : x 41 = nI nn) (hnn : nn = 16 ∨ nn = 24 ∨ nn = 32) (h48 : x 48 = 1) {l3 l4 : Nat} (h3 : bt σ 2 3 = nI l3) (h4 : bt σ 2 4 = nI l4) (hl3 : l3 ≤ 65536) (hl4 : l4 ≤ 65536) (hnp : nrw (sl (bt σ 52) nn nn)) {d1 : Nat} (hR : R = vRm d1 0 0) (hd1 : 8 ≤ d1) (kk : ∀ σ', (RS G ad θ x σ' ∧ (∀ k, ¬ (13 ≤ k ∧ k ≤ 17 ∨ k = 49 ∨ k = 22 ∨ k = 23 ∨ k = 27) → σ' k = σ k) ∧ bt σ' 27 = wr (bt σ 27) 0 (rnL θ true nn (sl (bt σ 52) nn nn) (sl (bt σ 39) 0 nn) (sgM hw (sl (bt σ 54) 0 l4) (sl (bt σ 53) 0 l3)))) → V G B p l e R s m args below meth c 8 0 0 Q (nW ad N σ') 333 [(0, .ref (ad 49)), (2, .int (howI hw))] []) : V G B p l e R s m args below meth c 8 0 0 Q (nW ad N σ) 214 [(0, .ref (ad 49)), (2, .int (howI hw))] [] := by
  subst hR
  have hk : 12 = 1 ∨ 12 = 3 ∨ 12 = 12 := by decide
  refine v_aload_n C eX12_slhSign_214 rfl 0 rfl ?_
  refine v_iload_n C eX12_slhSign_215 rfl 1 rfl ?_
  refine n_callV (As := [.int (howI hw)]) (rest := []) C I mX12_305 (rs_before I hN hw) (hN 49 (by decide)) hC.obj rfl (by omega) (by decide) ⟨by decide, by decide⟩ rfl (vi_k rfl) (Nat.le_of_ble_eq_true rfl) eX12_slhSign_216 (fun r ρ hp => ?_)
  obtain ⟨rfl, hρ⟩ := hp
  rw [hρ]
  clear hρ ρ
  refine v_aload_n C eX12_slhSign_219 rfl 0 rfl ?_
  refine n_get C I fX12_264_X12 eX12_slhSign_220 (hN 49 (by decide)) hC.obj rfl ?_
  refine v_if_eq (tgt := 253) C eX12_slhSign_223 (by decide) (fun h => absurd h (by rw [hC.i48, h48]; decide)) (fun _ => ?_)
  refine v_aload_n C eX12_slhSign_226 rfl 0 rfl ?_
  refine v_bipush (v := nI 12) C eX12_slhSign_227 (by decide) ?_
  refine n_callV (As := [.int (nI 12)]) (rest := []) C I mX12_166 (rt_begin I hN hC hk) (hN 49 (by decide)) hC.obj rfl (by omega) (by decide) ⟨by decide, by decide⟩ rfl (vi_c (rfl : nI 12 = nI 12) rfl) (Nat.le_of_ble_eq_true rfl) eX12_slhSign_229 (fun r σ1 hp => ?_)
  obtain ⟨rfl, hT1, hk1⟩ := hp
  have hC1 := hT1.1
  refine v_aload_n C eX12_slhSign_232 rfl 0 rfl ?_
  refine v_aload_n C eX12_slhSign_233 rfl 0 rfl ?_
  refine n_get C I fX12_16_X12 eX12_slhSign_234 (hN 49 (by decide)) hC1.obj rfl ?_
  refine v_iconst (v := (2 : Int32)) C eX12_slhSign_237 (by decide) ?_
  refine n_aald (b := ad 52) C I eX12_slhSign_238 (hN 1 (by decide)) hC1.slot 2 (rfl : (2 : Int32) = nI 2) (by omega) (by decide) (eRf_at (by omega)) ?_
  refine v_aload_n C eX12_slhSign_239 rfl 0 rfl ?_
  refine n_get C I fX12_243_X12 eX12_slhSign_240 (hN 49 (by decide)) hC1.obj rfl ?_
  refine v_aload_n C eX12_slhSign_243 rfl 0 rfl ?_
  refine n_get C I fX12_243_X12 eX12_slhSign_244 (hN 49 (by decide)) hC1.obj rfl ?_
  refine n_callV (As := [.ref (ad 52), .int (nI nn), .int (nI nn)]) (rest := []) C I mX12_233 (rt_putA I hN hT1 hk (kb := 52) (nb := 65536) rfl (by decide) nn nn (by omega)) (hN 49 (by decide)) hC1.obj rfl (by omega) (by decide) ⟨by decide, by decide⟩ rfl (vi_c (hC1.i41.trans h41) (vi_c (hC1.i41.trans h41) (vi_k rfl))) (Nat.le_of_ble_eq_true rfl) eX12_slhSign_247 (fun r σ2 hp => ?_)
  obtain ⟨rfl, hT2, hk2⟩ := hp
  have hC2 := hT2.1
  have k2 : ∀ j, ¬ (13 ≤ j ∧ j ≤ 17 ∨ j = 49) → σ2 j = σ j := fun j hj => (hk2 j hj).trans (hk1 j hj)
  refine v_goto (tgt := 275) C eX12_slhSign_250 (by decide) ?_
  rw [List.nil_append, bt_same (hk1 52 (by decide))] at hT2
  refine v_aload_n C eX12_slhSign_275 rfl 0 rfl ?_
  refine v_aload_n C eX12_slhSign_276 rfl 0 rfl ?_
  refine n_get C I fX12_114_X12 eX12_slhSign_277 (hN 49 (by decide)) hC2.obj rfl ?_
  refine v_iconst (v := (0 : Int32)) C eX12_slhSign_280 (by decide) ?_
  refine v_aload_n C eX12_slhSign_281 rfl 0 rfl ?_
  refine n_get C I fX12_243_X12 eX12_slhSign_282 (hN 49 (by decide)) hC2.obj rfl ?_
  refine n_callV (As := [.ref (ad 39), .int (nI 0), .int (nI nn)]) (rest := []) C I mX12_233 (rt_putA I hN hT2 hk (kb := 39) (nb := 32) rfl (by decide) 0 nn (by omega)) (hN 49 (by decide)) hC2.obj rfl (by omega) (by decide) ⟨by decide, by decide⟩ rfl (vi_c (hC2.i41.trans h41) (vi_c (rfl : (0 : Int32) = nI 0) (vi_k rfl))) (Nat.le_of_ble_eq_true rfl) eX12_slhSign_285 (fun r σ3 hp => ?_)
  obtain ⟨rfl, hT3, hk3⟩ := hp
  have hC3 := hT3.1
  refine v_aload_n C eX12_slhSign_288 rfl 0 rfl ?_
  refine v_iload_n C eX12_slhSign_289 rfl 1 rfl ?_
  have k3 : ∀ j, ¬ (13 ≤ j ∧ j ≤ 17 ∨ j = 49) → σ3 j = σ j := fun j hj => (hk3 j (by omega)).trans (k2 j (by omega))
  refine n_callV (As := [.int (howI hw)]) (rest := []) C I mX12_311 (rt_putSigned I hN hk hT3 hw (l3 := l3) (l4 := l4) (by rw [bt_same (k3 2 (by decide))]; exact h3) (by rw [bt_same (k3 2 (by decide))]; exact h4) hl3 hl4) (hN 49 (by decide)) hC3.obj rfl (by omega) (by decide) ⟨by decide, by decide⟩ rfl (vi_k rfl) (Nat.le_of_ble_eq_true rfl) eX12_slhSign_290 (fun r σ4 hp => ?_)
  obtain ⟨rfl, hT4, hk4⟩ := hp
  have hC4 := hT4.1
  refine v_aload_n C eX12_slhSign_293 rfl 0 rfl ?_
  refine n_get C I fX12_264_X12 eX12_slhSign_294 (hN 49 (by decide)) hC4.obj rfl ?_
  have k4 : ∀ j, ¬ (13 ≤ j ∧ j ≤ 17 ∨ j = 49) → σ4 j = σ j := fun j hj => (hk4 j (by omega)).trans (k3 j hj)
  have hT4' : RT G ad θ x 12 (sl (bt σ 52) nn nn ++ sl (bt σ 39) 0 nn ++ (sgM hw (sl (bt σ 54) 0 l4) (sl (bt σ 53) 0 l3))) σ4 := by rw [bt_same (k3 54 (by decide)), bt_same (k3 53 (by decide)), bt_same (k2 39 (by decide))] at hT4; exact hT4
  refine v_if_eq (tgt := 316) C eX12_slhSign_297 (by decide) (fun h => absurd h (by rw [hC4.i48, h48]; decide)) (fun _ => ?_)
  refine v_aload_n C eX12_slhSign_300 rfl 0 rfl ?_
  refine v_aload_n C eX12_slhSign_301 rfl 0 rfl ?_
  refine n_get C I fX12_78_X12 eX12_slhSign_302 (hN 49 (by decide)) hC4.obj rfl ?_
  refine v_iconst (v := (0 : Int32)) C eX12_slhSign_305 (by decide) ?_
  refine v_aload_n C eX12_slhSign_306 rfl 0 rfl ?_
  refine n_get C I fX12_243_X12 eX12_slhSign_307 (hN 49 (by decide)) hC4.obj rfl ?_
  refine n_callV (As := [.ref (ad 27), .int (nI 0), .int (nI nn)]) (rest := []) C I mX12_236 (rt_give I hN hT4' hk (ko := 27) (no := 65536) rfl (by decide) 0 nn (by show nn ≤ 64; omega) (by omega)) (hN 49 (by decide)) hC4.obj rfl (by omega) (by decide) ⟨by decide, by decide⟩ rfl (vi_c (hC4.i41.trans h41) (vi_c (rfl : (0 : Int32) = nI 0) (vi_k rfl))) (Nat.le_of_ble_eq_true rfl) eX12_slhSign_310 (fun r σ5 hp => ?_)
  obtain ⟨rfl, hC5, hk5, hv5⟩ := hp
  refine v_goto (tgt := 333) C eX12_slhSign_313 (by decide) ?_
  exact kk σ5 ⟨hC5, fun k hk => (hk5 k (by omega)).trans (k4 k (by omega)), by rw [hv5, bt_same (k4 27 (by decide))]; rfl⟩

set_option maxRecDepth 100000 in
set_option maxHeartbeats 4000000 in
theorem rs_signB1 (I : nI1 ad N) (hN : ∀ k, k < 74 → k < N) {p : Program} {e : Env} {R : Room} {s : State} {m : MethodId} {args : Array Value} {below : List Frame} {meth : Method} {c : Code} {Q : State → Prop} (C : vC G B p m meth c cX12_slhSign 8 (some .int) s args yX12_slhSign.cls) (hC : RS G ad θ x σ) (hw : Bool) (h41 : x 41 = nI nn) (hnn : nn = 16) (h48 : x 48 = 0) {l3 l4 : Nat} (h3 : bt σ 2 3 = nI l3) (h4 : bt σ 2 4 = nI l4) (hl3 : l3 ≤ 65536) (hl4 : l4 ≤ 65536) (hnp : nrw (sl (bt σ 52) nn nn)) {d1 : Nat} (hR : R = vRm d1 0 0) (hd1 : 8 ≤ d1) (kk : ∀ σ', (RS G ad θ x σ' ∧ (∀ k, ¬ (13 ≤ k ∧ k ≤ 17 ∨ k = 49 ∨ k = 22 ∨ k = 23 ∨ k = 27) → σ' k = σ k) ∧ bt σ' 27 = wr (bt σ 27) 0 (rnL θ false nn (sl (bt σ 52) nn nn) (sl (bt σ 39) 0 nn) (sgM hw (sl (bt σ 54) 0 l4) (sl (bt σ 53) 0 l3)))) → V G B p l e R s m args below meth c 8 0 0 Q (nW ad N σ') 333 [(0, .ref (ad 49)), (2, .int (howI hw))] []) : V G B p l e R s m args below meth c 8 0 0 Q (nW ad N σ) 214 [(0, .ref (ad 49)), (2, .int (howI hw))] [] := by
  subst hR
  have hk : 1 = 1 ∨ 1 = 3 ∨ 1 = 12 := by decide
  refine v_aload_n C eX12_slhSign_214 rfl 0 rfl ?_
  refine v_iload_n C eX12_slhSign_215 rfl 1 rfl ?_
  refine n_callV (As := [.int (howI hw)]) (rest := []) C I mX12_305 (rs_before I hN hw) (hN 49 (by decide)) hC.obj rfl (by omega) (by decide) ⟨by decide, by decide⟩ rfl (vi_k rfl) (Nat.le_of_ble_eq_true rfl) eX12_slhSign_216 (fun r ρ hp => ?_)
  obtain ⟨rfl, hρ⟩ := hp
  rw [hρ]
  clear hρ ρ
  refine v_aload_n C eX12_slhSign_219 rfl 0 rfl ?_
  refine n_get C I fX12_264_X12 eX12_slhSign_220 (hN 49 (by decide)) hC.obj rfl ?_
  refine v_if_eq (tgt := 253) C eX12_slhSign_223 (by decide) (fun _ => ?_) (fun h => absurd (hC.i48.trans h48) h)
  refine v_aload_n C eX12_slhSign_253 rfl 0 rfl ?_
  refine v_aload_n C eX12_slhSign_254 rfl 0 rfl ?_
  refine n_callV (As := []) (rest := [.ref (ad 49)]) C I mX12_308 (rs_large1 I hN hC h41 hnn) (hN 49 (by decide)) hC.obj rfl (by omega) (by decide) ⟨by decide, by decide⟩ rfl rfl (Nat.le_of_ble_eq_true rfl) eX12_slhSign_255 (fun r ρ hp => ?_)
  obtain ⟨rfl, hρ⟩ := hp
  rw [hρ]
  clear hρ ρ
  refine v_aload_n C eX12_slhSign_258 rfl 0 rfl ?_
  refine n_get C I fX12_16_X12 eX12_slhSign_259 (hN 49 (by decide)) hC.obj rfl ?_
  refine v_iconst (v := (2 : Int32)) C eX12_slhSign_262 (by decide) ?_
  refine n_aald (b := ad 52) C I eX12_slhSign_263 (hN 1 (by decide)) hC.slot 2 (rfl : (2 : Int32) = nI 2) (by omega) (by decide) (eRf_at (by omega)) ?_
  refine v_aload_n C eX12_slhSign_264 rfl 0 rfl ?_
  refine n_get C I fX12_243_X12 eX12_slhSign_265 (hN 49 (by decide)) hC.obj rfl ?_
  refine v_aload_n C eX12_slhSign_268 rfl 0 rfl ?_
  refine n_get C I fX12_243_X12 eX12_slhSign_269 (hN 49 (by decide)) hC.obj rfl ?_
  refine n_callV (As := [.int (nI 1), .ref (ad 52), .int (nI nn), .int (nI nn)]) (rest := []) C I mX12_328 (rt_startMac1 I hN hC (kx := 52) (nx := 65536) rfl (by decide) (by decide) nn nn (by omega) (by omega) hnp) (hN 49 (by decide)) hC.obj rfl (by omega) (by decide) ⟨by decide, by decide⟩ rfl (vi_c (hC.i41.trans h41) (vi_c (hC.i41.trans h41) (vi_k (vi_c (rfl : nI 1 = nI 1) rfl)))) (Nat.le_of_ble_eq_true rfl) eX12_slhSign_272 (fun r σ2 hp => ?_)
  obtain ⟨rfl, hT2, k2, hkey2⟩ := hp
  have hC2 := hT2.1
  refine v_aload_n C eX12_slhSign_275 rfl 0 rfl ?_
  refine v_aload_n C eX12_slhSign_276 rfl 0 rfl ?_
  refine n_get C I fX12_114_X12 eX12_slhSign_277 (hN 49 (by decide)) hC2.obj rfl ?_
  refine v_iconst (v := (0 : Int32)) C eX12_slhSign_280 (by decide) ?_
  refine v_aload_n C eX12_slhSign_281 rfl 0 rfl ?_
  refine n_get C I fX12_243_X12 eX12_slhSign_282 (hN 49 (by decide)) hC2.obj rfl ?_
  refine n_callV (As := [.ref (ad 39), .int (nI 0), .int (nI nn)]) (rest := []) C I mX12_233 (rt_putA I hN hT2 hk (kb := 39) (nb := 32) rfl (by decide) 0 nn (by omega)) (hN 49 (by decide)) hC2.obj rfl (by omega) (by decide) ⟨by decide, by decide⟩ rfl (vi_c (hC2.i41.trans h41) (vi_c (rfl : (0 : Int32) = nI 0) (vi_k rfl))) (Nat.le_of_ble_eq_true rfl) eX12_slhSign_285 (fun r σ3 hp => ?_)
  obtain ⟨rfl, hT3, hk3⟩ := hp
  have hC3 := hT3.1
  refine v_aload_n C eX12_slhSign_288 rfl 0 rfl ?_
  refine v_iload_n C eX12_slhSign_289 rfl 1 rfl ?_
  have k3 : ∀ j, ¬ (13 ≤ j ∧ j ≤ 17 ∨ j = 49 ∨ j = 22) → σ3 j = σ j := fun j hj => (hk3 j (by omega)).trans (k2 j (by omega))
  refine n_callV (As := [.int (howI hw)]) (rest := []) C I mX12_311 (rt_putSigned I hN hk hT3 hw (l3 := l3) (l4 := l4) (by rw [bt_same (k3 2 (by decide))]; exact h3) (by rw [bt_same (k3 2 (by decide))]; exact h4) hl3 hl4) (hN 49 (by decide)) hC3.obj rfl (by omega) (by decide) ⟨by decide, by decide⟩ rfl (vi_k rfl) (Nat.le_of_ble_eq_true rfl) eX12_slhSign_290 (fun r σ4 hp => ?_)
  obtain ⟨rfl, hT4, hk4⟩ := hp
  have hC4 := hT4.1
  refine v_aload_n C eX12_slhSign_293 rfl 0 rfl ?_
  refine n_get C I fX12_264_X12 eX12_slhSign_294 (hN 49 (by decide)) hC4.obj rfl ?_
  have k4 : ∀ j, ¬ (13 ≤ j ∧ j ≤ 17 ∨ j = 49 ∨ j = 22) → σ4 j = σ j := fun j hj => (hk4 j (by omega)).trans (k3 j hj)
  have hT4' : RT G ad θ x 1 (xorL 54 (sl (bt σ 52) nn nn) 64 ++ sl (bt σ 39) 0 nn ++ (sgM hw (sl (bt σ 54) 0 l4) (sl (bt σ 53) 0 l3))) σ4 := by rw [bt_same (k3 54 (by decide)), bt_same (k3 53 (by decide)), bt_same (k2 39 (by decide))] at hT4; exact hT4
  refine v_if_eq (tgt := 316) C eX12_slhSign_297 (by decide) (fun _ => ?_) (fun h => absurd (hC4.i48.trans h48) h)
  refine v_aload_n C eX12_slhSign_316 rfl 0 rfl ?_
  refine v_aload_n C eX12_slhSign_317 rfl 0 rfl ?_
  refine n_callV (As := []) (rest := [.ref (ad 49)]) C I mX12_308 (rs_large1 I hN hC4 h41 hnn) (hN 49 (by decide)) hC4.obj rfl (by omega) (by decide) ⟨by decide, by decide⟩ rfl rfl (Nat.le_of_ble_eq_true rfl) eX12_slhSign_318 (fun r ρ hp => ?_)
  obtain ⟨rfl, hρ⟩ := hp
  rw [hρ]
  clear hρ ρ
  refine v_aload_n C eX12_slhSign_321 rfl 0 rfl ?_
  refine n_get C I fX12_78_X12 eX12_slhSign_322 (hN 49 (by decide)) hC4.obj rfl ?_
  refine v_iconst (v := (0 : Int32)) C eX12_slhSign_325 (by decide) ?_
  refine v_aload_n C eX12_slhSign_326 rfl 0 rfl ?_
  refine n_get C I fX12_243_X12 eX12_slhSign_327 (hN 49 (by decide)) hC4.obj rfl ?_
  refine n_callV (As := [.int (nI 1), .ref (ad 27), .int (nI 0), .int (nI nn)]) (rest := []) C I mX12_332 (rt_endMac1 I hN hT4' (key := sl (bt σ 52) nn nn) (fun i hi => by rw [bt_same (hk4 22 (by decide)), bt_same (hk3 22 (by decide))]; exact hkey2 i hi) (ko := 27) (no := 65536) rfl (by decide) (by decide) 0 nn (by omega) (by omega)) (hN 49 (by decide)) hC4.obj rfl (by omega) (by decide) ⟨by decide, by decide⟩ rfl (vi_c (hC4.i41.trans h41) (vi_c (rfl : (0 : Int32) = nI 0) (vi_k (vi_c (rfl : nI 1 = nI 1) rfl)))) (Nat.le_of_ble_eq_true rfl) eX12_slhSign_330 (fun r σ5 hp => ?_)
  obtain ⟨rfl, hC5, hk5, hv5⟩ := hp
  refine kk σ5 ⟨hC5, fun k hk => (hk5 k (by omega)).trans (k4 k (by omega)), ?_⟩
  rw [hv5, bt_same (k4 27 (by decide))]
  subst hnn; rfl

set_option maxRecDepth 100000 in
set_option maxHeartbeats 4000000 in
theorem rs_signB3 (I : nI1 ad N) (hN : ∀ k, k < 74 → k < N) {p : Program} {e : Env} {R : Room} {s : State} {m : MethodId} {args : Array Value} {below : List Frame} {meth : Method} {c : Code} {Q : State → Prop} (C : vC G B p m meth c cX12_slhSign 8 (some .int) s args yX12_slhSign.cls) (hC : RS G ad θ x σ) (hw : Bool) (h41 : x 41 = nI nn) (hnn : nn = 24 ∨ nn = 32) (h48 : x 48 = 0) {l3 l4 : Nat} (h3 : bt σ 2 3 = nI l3) (h4 : bt σ 2 4 = nI l4) (hl3 : l3 ≤ 65536) (hl4 : l4 ≤ 65536) (hnp : nrw (sl (bt σ 52) nn nn)) {d1 : Nat} (hR : R = vRm d1 0 0) (hd1 : 8 ≤ d1) (kk : ∀ σ', (RS G ad θ x σ' ∧ (∀ k, ¬ (13 ≤ k ∧ k ≤ 17 ∨ k = 49 ∨ k = 22 ∨ k = 23 ∨ k = 27) → σ' k = σ k) ∧ bt σ' 27 = wr (bt σ 27) 0 (rnL θ false nn (sl (bt σ 52) nn nn) (sl (bt σ 39) 0 nn) (sgM hw (sl (bt σ 54) 0 l4) (sl (bt σ 53) 0 l3)))) → V G B p l e R s m args below meth c 8 0 0 Q (nW ad N σ') 333 [(0, .ref (ad 49)), (2, .int (howI hw))] []) : V G B p l e R s m args below meth c 8 0 0 Q (nW ad N σ) 214 [(0, .ref (ad 49)), (2, .int (howI hw))] [] := by
  subst hR
  have hk : 3 = 1 ∨ 3 = 3 ∨ 3 = 12 := by decide
  refine v_aload_n C eX12_slhSign_214 rfl 0 rfl ?_
  refine v_iload_n C eX12_slhSign_215 rfl 1 rfl ?_
  refine n_callV (As := [.int (howI hw)]) (rest := []) C I mX12_305 (rs_before I hN hw) (hN 49 (by decide)) hC.obj rfl (by omega) (by decide) ⟨by decide, by decide⟩ rfl (vi_k rfl) (Nat.le_of_ble_eq_true rfl) eX12_slhSign_216 (fun r ρ hp => ?_)
  obtain ⟨rfl, hρ⟩ := hp
  rw [hρ]
  clear hρ ρ
  refine v_aload_n C eX12_slhSign_219 rfl 0 rfl ?_
  refine n_get C I fX12_264_X12 eX12_slhSign_220 (hN 49 (by decide)) hC.obj rfl ?_
  refine v_if_eq (tgt := 253) C eX12_slhSign_223 (by decide) (fun _ => ?_) (fun h => absurd (hC.i48.trans h48) h)
  refine v_aload_n C eX12_slhSign_253 rfl 0 rfl ?_
  refine v_aload_n C eX12_slhSign_254 rfl 0 rfl ?_
  refine n_callV (As := []) (rest := [.ref (ad 49)]) C I mX12_308 (rs_large3 I hN hC h41 hnn) (hN 49 (by decide)) hC.obj rfl (by omega) (by decide) ⟨by decide, by decide⟩ rfl rfl (Nat.le_of_ble_eq_true rfl) eX12_slhSign_255 (fun r ρ hp => ?_)
  obtain ⟨rfl, hρ⟩ := hp
  rw [hρ]
  clear hρ ρ
  refine v_aload_n C eX12_slhSign_258 rfl 0 rfl ?_
  refine n_get C I fX12_16_X12 eX12_slhSign_259 (hN 49 (by decide)) hC.obj rfl ?_
  refine v_iconst (v := (2 : Int32)) C eX12_slhSign_262 (by decide) ?_
  refine n_aald (b := ad 52) C I eX12_slhSign_263 (hN 1 (by decide)) hC.slot 2 (rfl : (2 : Int32) = nI 2) (by omega) (by decide) (eRf_at (by omega)) ?_
  refine v_aload_n C eX12_slhSign_264 rfl 0 rfl ?_
  refine n_get C I fX12_243_X12 eX12_slhSign_265 (hN 49 (by decide)) hC.obj rfl ?_
  refine v_aload_n C eX12_slhSign_268 rfl 0 rfl ?_
  refine n_get C I fX12_243_X12 eX12_slhSign_269 (hN 49 (by decide)) hC.obj rfl ?_
  refine n_callV (As := [.int (nI 3), .ref (ad 52), .int (nI nn), .int (nI nn)]) (rest := []) C I mX12_328 (rt_startMac3 I hN hC (kx := 52) (nx := 65536) rfl (by decide) (by decide) nn nn (by omega) (by omega) hnp) (hN 49 (by decide)) hC.obj rfl (by omega) (by decide) ⟨by decide, by decide⟩ rfl (vi_c (hC.i41.trans h41) (vi_c (hC.i41.trans h41) (vi_k (vi_c (rfl : nI 3 = nI 3) rfl)))) (Nat.le_of_ble_eq_true rfl) eX12_slhSign_272 (fun r σ2 hp => ?_)
  obtain ⟨rfl, hT2, k2, hkey2⟩ := hp
  have hC2 := hT2.1
  refine v_aload_n C eX12_slhSign_275 rfl 0 rfl ?_
  refine v_aload_n C eX12_slhSign_276 rfl 0 rfl ?_
  refine n_get C I fX12_114_X12 eX12_slhSign_277 (hN 49 (by decide)) hC2.obj rfl ?_
  refine v_iconst (v := (0 : Int32)) C eX12_slhSign_280 (by decide) ?_
  refine v_aload_n C eX12_slhSign_281 rfl 0 rfl ?_
  refine n_get C I fX12_243_X12 eX12_slhSign_282 (hN 49 (by decide)) hC2.obj rfl ?_
  refine n_callV (As := [.ref (ad 39), .int (nI 0), .int (nI nn)]) (rest := []) C I mX12_233 (rt_putA I hN hT2 hk (kb := 39) (nb := 32) rfl (by decide) 0 nn (by omega)) (hN 49 (by decide)) hC2.obj rfl (by omega) (by decide) ⟨by decide, by decide⟩ rfl (vi_c (hC2.i41.trans h41) (vi_c (rfl : (0 : Int32) = nI 0) (vi_k rfl))) (Nat.le_of_ble_eq_true rfl) eX12_slhSign_285 (fun r σ3 hp => ?_)
  obtain ⟨rfl, hT3, hk3⟩ := hp
  have hC3 := hT3.1
  refine v_aload_n C eX12_slhSign_288 rfl 0 rfl ?_
  refine v_iload_n C eX12_slhSign_289 rfl 1 rfl ?_
  have k3 : ∀ j, ¬ (13 ≤ j ∧ j ≤ 17 ∨ j = 49 ∨ j = 22) → σ3 j = σ j := fun j hj => (hk3 j (by omega)).trans (k2 j (by omega))
  refine n_callV (As := [.int (howI hw)]) (rest := []) C I mX12_311 (rt_putSigned I hN hk hT3 hw (l3 := l3) (l4 := l4) (by rw [bt_same (k3 2 (by decide))]; exact h3) (by rw [bt_same (k3 2 (by decide))]; exact h4) hl3 hl4) (hN 49 (by decide)) hC3.obj rfl (by omega) (by decide) ⟨by decide, by decide⟩ rfl (vi_k rfl) (Nat.le_of_ble_eq_true rfl) eX12_slhSign_290 (fun r σ4 hp => ?_)
  obtain ⟨rfl, hT4, hk4⟩ := hp
  have hC4 := hT4.1
  refine v_aload_n C eX12_slhSign_293 rfl 0 rfl ?_
  refine n_get C I fX12_264_X12 eX12_slhSign_294 (hN 49 (by decide)) hC4.obj rfl ?_
  have k4 : ∀ j, ¬ (13 ≤ j ∧ j ≤ 17 ∨ j = 49 ∨ j = 22) → σ4 j = σ j := fun j hj => (hk4 j (by omega)).trans (k3 j hj)
  have hT4' : RT G ad θ x 3 (xorL 54 (sl (bt σ 52) nn nn) 128 ++ sl (bt σ 39) 0 nn ++ (sgM hw (sl (bt σ 54) 0 l4) (sl (bt σ 53) 0 l3))) σ4 := by rw [bt_same (k3 54 (by decide)), bt_same (k3 53 (by decide)), bt_same (k2 39 (by decide))] at hT4; exact hT4
  refine v_if_eq (tgt := 316) C eX12_slhSign_297 (by decide) (fun _ => ?_) (fun h => absurd (hC4.i48.trans h48) h)
  refine v_aload_n C eX12_slhSign_316 rfl 0 rfl ?_
  refine v_aload_n C eX12_slhSign_317 rfl 0 rfl ?_
  refine n_callV (As := []) (rest := [.ref (ad 49)]) C I mX12_308 (rs_large3 I hN hC4 h41 hnn) (hN 49 (by decide)) hC4.obj rfl (by omega) (by decide) ⟨by decide, by decide⟩ rfl rfl (Nat.le_of_ble_eq_true rfl) eX12_slhSign_318 (fun r ρ hp => ?_)
  obtain ⟨rfl, hρ⟩ := hp
  rw [hρ]
  clear hρ ρ
  refine v_aload_n C eX12_slhSign_321 rfl 0 rfl ?_
  refine n_get C I fX12_78_X12 eX12_slhSign_322 (hN 49 (by decide)) hC4.obj rfl ?_
  refine v_iconst (v := (0 : Int32)) C eX12_slhSign_325 (by decide) ?_
  refine v_aload_n C eX12_slhSign_326 rfl 0 rfl ?_
  refine n_get C I fX12_243_X12 eX12_slhSign_327 (hN 49 (by decide)) hC4.obj rfl ?_
  refine n_callV (As := [.int (nI 3), .ref (ad 27), .int (nI 0), .int (nI nn)]) (rest := []) C I mX12_332 (rt_endMac3 I hN hT4' (key := sl (bt σ 52) nn nn) (fun i hi => by rw [bt_same (hk4 22 (by decide)), bt_same (hk3 22 (by decide))]; exact hkey2 i hi) (ko := 27) (no := 65536) rfl (by decide) (by decide) 0 nn (by omega) (by omega)) (hN 49 (by decide)) hC4.obj rfl (by omega) (by decide) ⟨by decide, by decide⟩ rfl (vi_c (hC4.i41.trans h41) (vi_c (rfl : (0 : Int32) = nI 0) (vi_k (vi_c (rfl : nI 3 = nI 3) rfl)))) (Nat.le_of_ble_eq_true rfl) eX12_slhSign_330 (fun r σ5 hp => ?_)
  obtain ⟨rfl, hC5, hk5, hv5⟩ := hp
  refine kk σ5 ⟨hC5, fun k hk => (hk5 k (by omega)).trans (k4 k (by omega)), ?_⟩
  rw [hv5, bt_same (k4 27 (by decide))]
  have hnn' : ¬ nn = 16 := by omega
  unfold rnL; simp only [Bool.false_eq_true, if_false, hnn']; rfl

theorem rs_signB (I : nI1 ad N) (hN : ∀ k, k < 74 → k < N) {p : Program} {e : Env} {R : Room} {s : State} {m : MethodId} {args : Array Value} {below : List Frame} {meth : Method} {c : Code} {Q : State → Prop} (C : vC G B p m meth c cX12_slhSign 8 (some .int) s args yX12_slhSign.cls) (hC : RS G ad θ x σ) (hw : Bool) (h41 : x 41 = nI nn) (hnn : nn = 16 ∨ nn = 24 ∨ nn = 32) (h48 : x 48 = if sh then 1 else 0) {l3 l4 : Nat} (h3 : bt σ 2 3 = nI l3) (h4 : bt σ 2 4 = nI l4) (hl3 : l3 ≤ 65536) (hl4 : l4 ≤ 65536) (hnp : nrw (sl (bt σ 52) nn nn)) {d1 : Nat} (hR : R = vRm d1 0 0) (hd1 : 8 ≤ d1) (kk : ∀ σ', RS G ad θ x σ' ∧ (∀ k, ¬ (13 ≤ k ∧ k ≤ 17 ∨ k = 49 ∨ k = 22 ∨ k = 23 ∨ k = 27) → σ' k = σ k) ∧ bt σ' 27 = wr (bt σ 27) 0 (rnL θ sh nn (sl (bt σ 52) nn nn) (sl (bt σ 39) 0 nn) (sgM hw (sl (bt σ 54) 0 l4) (sl (bt σ 53) 0 l3))) → V G B p l e R s m args below meth c 8 0 0 Q (nW ad N σ') 333 [(0, .ref (ad 49)), (2, .int (howI hw))] []) : V G B p l e R s m args below meth c 8 0 0 Q (nW ad N σ) 214 [(0, .ref (ad 49)), (2, .int (howI hw))] [] := by
  cases sh with
  | true => exact rs_signB12 I hN C hC hw h41 hnn h48 h3 h4 hl3 hl4 hnp hR hd1 kk
  | false =>
    by_cases q : nn = 16
    · exact rs_signB1 I hN C hC hw h41 q h48 h3 h4 hl3 hl4 hnp hR hd1 kk
    · exact rs_signB3 I hN C hC hw h41 (by omega) h48 h3 h4 hl3 hl4 hnp hR hd1 kk
/-- from layer to layer: the packet so far, and the root -/
def syP (θ : tT) (sh : Bool) (nn hh : Nat) (P K : List Int32) (tr : Int64) (i0 : Nat) (p0 w0 : List Int32) : Nat → List Int32 × List Int32
  | 0 => (p0, w0)
  | k + 1 => ((syP θ sh nn hh P K tr i0 p0 w0 k).1 ++ sgL (fF θ sh nn P (hdL (nI k) (lyT hh tr k))) K (2 * nn + 3) hh (digL nn (syP θ sh nn hh P K tr i0 p0 w0 k).2) (lyI hh tr i0 k),
      rtL (fF θ sh nn P (hdL (nI k) (lyT hh tr k))) (2 * nn + 3) hh (digL nn (syP θ sh nn hh P K tr i0 p0 w0 k).2) (fun q => lsl ((syP θ sh nn hh P K tr i0 p0 w0 k).1 ++ sgL (fF θ sh nn P (hdL (nI k) (lyT hh tr k))) K (2 * nn + 3) hh (digL nn (syP θ sh nn hh P K tr i0 p0 w0 k).2) (lyI hh tr i0 k)) ((syP θ sh nn hh P K tr i0 p0 w0 k).1.length + q * nn) nn) (lyI hh tr i0 k))
theorem syP_1 {hh : Nat} {tr : Int64} {i0 : Nat} {p0 w0 : List Int32} (k : Nat) : (syP θ sh nn hh P K tr i0 p0 w0 (k + 1)).1 = (syP θ sh nn hh P K tr i0 p0 w0 k).1 ++ sgL (fF θ sh nn P (hdL (nI k) (lyT hh tr k))) K (2 * nn + 3) hh (digL nn (syP θ sh nn hh P K tr i0 p0 w0 k).2) (lyI hh tr i0 k) := rfl
theorem syP_2 {hh : Nat} {tr : Int64} {i0 : Nat} {p0 w0 : List Int32} (k : Nat) : (syP θ sh nn hh P K tr i0 p0 w0 (k + 1)).2 = rtL (fF θ sh nn P (hdL (nI k) (lyT hh tr k))) (2 * nn + 3) hh (digL nn (syP θ sh nn hh P K tr i0 p0 w0 k).2) (fun q => lsl (syP θ sh nn hh P K tr i0 p0 w0 (k + 1)).1 ((syP θ sh nn hh P K tr i0 p0 w0 k).1.length + q * nn) nn) (lyI hh tr i0 k) := rfl
theorem syP_len {hh : Nat} {tr : Int64} {i0 : Nat} {p0 w0 : List Int32} : ∀ k, (syP θ sh nn hh P K tr i0 p0 w0 k).1.length = p0.length + k * ((2 * nn + 3 + hh) * nn)
  | 0 => by rw [Nat.zero_mul]; rfl
  | k + 1 => by
    show (_ ++ _ : List Int32).length = _
    rw [List.length_append, syP_len k, sgL_len, Nat.succ_mul k, Nat.add_assoc]
theorem syP_nrw {hh : Nat} {tr : Int64} {i0 : Nat} {p0 w0 : List Int32} (h : nrw p0) : ∀ k, nrw (syP θ sh nn hh P K tr i0 p0 w0 k).1
  | 0 => h
  | k + 1 => nrw_app (syP_nrw h k) nrw_sgL
/-- the signature -/
def sgR (θ : tT) (sh : Bool) (nn hh aa tt th dd : Nat) (P K T R : List Int32) : List Int32 := (syP θ sh nn hh P K (tgT T tt aa th hh) (tgI T tt aa th hh) (R ++ sfL (fF θ sh nn P (hdL (nI 0) (tgT T tt aa th hh))) K T aa tt (tgI T tt aa th hh)) (rfL (fF θ sh nn P (hdL (nI 0) (tgT T tt aa th hh))) T aa tt nn (fun q => lsl (R ++ sfL (fF θ sh nn P (hdL (nI 0) (tgT T tt aa th hh))) K T aa tt (tgI T tt aa th hh)) q nn) (tgI T tt aa th hh) nn) dd).1
set_option maxRecDepth 100000 in
set_option maxHeartbeats 4000000 in
theorem rs_signC (I : nI1 ad N) (hN : ∀ k, k < 74 → k < N) {p : Program} {e : Env} {R : Room} {s : State} {m : MethodId} {args : Array Value} {below : List Frame} {meth : Method} {c : Code}  (C : vC G B p m meth c cX12_slhSign 8 (some .int) s args yX12_slhSign.cls) (hC : RS G ad θ x σ) {tt aa th hh dd : Nat} (h41 : x 41 = nI nn) (hnn : nn = 16 ∨ nn = 24 ∨ nn = 32) (h42 : x 42 = nI th) (h43 : x 43 = nI dd) (h44 : x 44 = nI hh) (hh9 : 1 ≤ hh ∧ hh ≤ 9) (h45 : x 45 = nI aa) (ha14 : aa ≤ 14) (h46 : x 46 = nI tt) (ht35 : tt ≤ 35) (h47 : x 47 = nI (2 * nn + 3)) (h48 : x 48 = if sh then 1 else 0) (hht : hh ≤ th) (hth : th ≤ 100) (hdd : dd ≤ 22) {mm : Nat} (hmm : (tt * aa + 7) / 8 + (th - hh + 7) / 8 + (hh + 7) / 8 = mm) (hm64 : mm ≤ 64) (hw : Bool) {l3 l4 : Nat} (h3 : bt σ 2 3 = nI l3) (h4 : bt σ 2 4 = nI l4) (hl3 : l3 ≤ 65536) (hl4 : l4 ≤ 65536) {Rr Qr : List Int32} (hRl : Rr.length = nn) {g27 : Nat → Int32} (hR27 : bt σ 27 = wr g27 0 Rr) (hRR : sl (bt σ 27) 0 nn = Rr) (hPP : sl (bt σ 37) 0 nn = P) (hKK : sl (bt σ 38) 0 nn = K) (hQQ : sl (bt σ 40) 0 nn = Qr) (hnR : nrw Rr) (hnP : nrw P) {L5 : Nat} (hL5 : (nn + tt * ((1 + aa) * nn)) + dd * ((2 * nn + 3 + hh) * nn) = L5) (hL65 : L5 ≤ 65536) {d1 : Nat} (hR : R = vRm d1 0 0) (hd1 : 40 ≤ d1) {Post : Option Value → nS → Prop} (hPost : ∀ r σ', r = some (.int (nI L5)) ∧ RS G ad θ x σ' ∧ (∀ k, ¬ (13 ≤ k ∧ k ≤ 17 ∨ k = 49 ∨ k = 2 ∨ k = 23 ∨ k = 25 ∨ k = 26 ∨ k = 27 ∨ k = 28 ∨ k = 30 ∨ k = 31 ∨ k = 32 ∨ k = 33 ∨ k = 34 ∨ k = 35 ∨ k = 36 ∨ k = 39 ∨ k = 55 ∨ (58 < k ∧ k < 74)) → σ' k = σ k) ∧ bt σ' 2 = upd (bt σ 2) 5 (nI L5) ∧ sl (bt σ' 55) 0 L5 = sgR θ sh nn hh aa tt th dd P K (dtL θ sh nn mm Rr P Qr (sgM hw (sl (bt σ 54) 0 l4) (sl (bt σ 53) 0 l3))) Rr → Post r σ') : V G B p l e R s m args below meth c 8 0 0 (MQ below (vQ G B (fun r w' => ∃ σ' : nS, w' = nW ad N σ' ∧ Post r σ')) args s 0 0 (fun q => B ≤ q)) (nW ad N σ) 333 [(0, .ref (ad 49)), (2, .int (howI hw))] [] := by
  subst hR
  have hM : (1 + aa) * nn = nn + aa * nn := by rw [Nat.add_mul, Nat.one_mul]
  have hb1 : tt * aa < 2 ^ 20 := Nat.lt_of_le_of_lt (Nat.mul_le_mul ht35 ha14) (by decide)
  have hcn : (2 * nn + 3) * nn ≤ 2144 := by rcases hnn with h | h | h <;> subst h <;> decide
  have hhn : hh * nn ≤ 9 * 32 := Nat.mul_le_mul hh9.2 (by omega)
  have hmul : (2 * nn + 3 + hh) * nn = (2 * nn + 3) * nn + hh * nn := Nat.add_mul _ _ _
  have htM : tt * (1 + aa) * nn = tt * ((1 + aa) * nn) := Nat.mul_assoc _ _ _
  have htM2 : tt * (1 + aa) ≤ 35 * 15 := Nat.mul_le_mul ht35 (by omega)
  refine v_aload_n C eX12_slhSign_333 rfl 0 rfl ?_
  refine v_aload_n C eX12_slhSign_334 rfl 0 rfl ?_
  refine n_get C I fX12_78_X12 eX12_slhSign_335 (hN 49 (by decide)) hC.obj rfl ?_
  refine v_iconst (v := (0 : Int32)) C eX12_slhSign_338 (by decide) ?_
  refine v_iload_n C eX12_slhSign_339 rfl 1 rfl ?_
  refine n_callV (As := [.ref (ad 27), .int (nI 0), .int (howI hw)]) (rest := []) C I mX12_335 (rs_digestTree I hN hC h41 hnn h42 h43 h44 hh9 h45 ha14 h46 ht35 h47 h48 hht hth hdd hmm hm64 hw h3 h4 hl3 hl4 (kx := 27) (nx := 65536) rfl (by decide) (by decide) 0 (by omega) (by rw [hRR]; exact hnR) (by rw [hPP]; exact hnP)) (hN 49 (by decide)) hC.obj rfl (by omega) (by decide) ⟨by decide, by decide⟩ rfl (vi_k (vi_c (rfl : (0 : Int32) = nI 0) (vi_k rfl))) (Nat.le_of_ble_eq_true rfl) eX12_slhSign_340 (fun r σ3 hp => ?_)
  obtain ⟨rfl, hC3, hk3, hv3⟩ := hp
  obtain ⟨T, hTd⟩ : ∃ T, T = dtL θ sh nn mm Rr P Qr (sgM hw (sl (bt σ 54) 0 l4) (sl (bt σ 53) 0 l3)) := ⟨_, rfl⟩
  have hTl : sl (bt σ3 35) 0 mm = T := by rw [hv3, sl_wr' (dtL_len (by omega)), hRR, hPP, hQQ, hTd]
  refine v_aload_n C eX12_slhSign_343 rfl 0 rfl ?_
  refine n_callV (As := []) (rest := []) C I mX12_338 (rs_treeNumber I hN hC3 h41 h42 h44 h45 h46 hht hb1 (by omega) hTl hm64 (by omega)) (hN 49 (by decide)) hC3.obj rfl (by omega) (by decide) ⟨by decide, by decide⟩ rfl rfl (Nat.le_of_ble_eq_true rfl) eX12_slhSign_344 (fun r ρ hp => ?_)
  obtain ⟨rfl, hρ⟩ := hp
  rw [hρ]
  clear hρ ρ
  refine v_lstore_n (lv' := [(0, .ref (ad 49)), (2, .int (howI hw)), (3, .long (tgT T tt aa th hh))]) C eX12_slhSign_347 rfl (by decide) [1, 2, 0] rfl ?_
  refine v_aload_n C eX12_slhSign_348 rfl 0 rfl ?_
  refine n_callV (As := []) (rest := []) C I mX12_342 (rs_pairNumber I hN hC3 h41 h42 h44 h45 h46 hht hb1 (by omega) hTl hm64 hh9.2 (by omega)) (hN 49 (by decide)) hC3.obj rfl (by omega) (by decide) ⟨by decide, by decide⟩ rfl rfl (Nat.le_of_ble_eq_true rfl) eX12_slhSign_349 (fun r ρ hp => ?_)
  obtain ⟨rfl, hρ⟩ := hp
  rw [hρ]
  clear hρ ρ
  refine v_istore (lv' := [(0, .ref (ad 49)), (2, .int (howI hw)), (3, .long (tgT T tt aa th hh)), (5, .int (nI (tgI T tt aa th hh)))]) C eX12_slhSign_352 (by decide) [1, 2, 3, 0] rfl ?_
  have hi0 := tgI_lt (T := T) (tt := tt) (aa := aa) (th := th) (hh := hh)
  refine v_aload_n C eX12_slhSign_354 rfl 0 rfl ?_
  refine v_iconst (v := (0 : Int32)) C eX12_slhSign_355 (by decide) ?_
  refine v_lload_n C eX12_slhSign_356 rfl 2 rfl ?_
  refine n_callV (As := [.int (nI 0), .long (tgT T tt aa th hh)]) (rest := []) C I mX12_321 (rs_place I hN hC3 (nI 0) (tgT T tt aa th hh)) (hN 49 (by decide)) hC3.obj rfl (by omega) (by decide) ⟨by decide, by decide⟩ rfl (vi_k (vi_c (rfl : (0 : Int32) = nI 0) rfl)) (Nat.le_of_ble_eq_true rfl) eX12_slhSign_357 (fun r σ4 hp => ?_)
  obtain ⟨rfl, hC4, hk4, hv4⟩ := hp
  have hR4 : RC G ad θ x sh nn P (hdL (nI 0) (tgT T tt aa th hh)) K σ4 := ⟨hC4, ⟨h41, hnn, h48⟩, hv4, by rw [bt_same (hk4 37 (by decide)), bt_same (hk3 37 (by decide)), hPP], by rw [bt_same (hk4 38 (by decide)), bt_same (hk3 38 (by decide)), hKK]⟩
  refine v_aload_n C eX12_slhSign_360 rfl 0 rfl ?_
  refine v_iload C eX12_slhSign_361 3 rfl ?_
  refine v_aload_n C eX12_slhSign_363 rfl 0 rfl ?_
  refine n_get C I fX12_78_X12 eX12_slhSign_364 (hN 49 (by decide)) hC4.obj rfl ?_
  refine v_aload_n C eX12_slhSign_367 rfl 0 rfl ?_
  refine n_get C I fX12_243_X12 eX12_slhSign_368 (hN 49 (by decide)) hC4.obj rfl ?_
  refine n_callV (As := [.int (nI (tgI T tt aa th hh)), .ref (ad 27), .int (nI nn)]) (rest := []) C I mX12_345 (rc_signForest I hN hR4 (T := T) (mT := mm) (by rw [bt_same (hk4 35 (by decide))]; exact hTl) hm64 h45 ha14 h46 ht35 (by omega) (ko := 27) (no := 65536) rfl (by decide) (by decide) (by decide) (by decide) (by decide) (tgI T tt aa th hh) nn (by omega)) (hN 49 (by decide)) hC4.obj rfl (by omega) (by decide) ⟨by decide, by decide⟩ rfl (vi_c (hC4.i41.trans h41) (vi_k (vi_c (rfl : nI (tgI T tt aa th hh) = nI (tgI T tt aa th hh)) rfl))) (Nat.le_of_ble_eq_true rfl) eX12_slhSign_371 (fun r σ5 hp => ?_)
  obtain ⟨rfl, hR5, hk5, hv5⟩ := hp
  have hC5 := hR5.s
  have hp0 : bt σ5 27 = wr g27 0 (Rr ++ sfL (fF θ sh nn P (hdL (nI 0) (tgT T tt aa th hh))) K T aa tt (tgI T tt aa th hh)) := by rw [hv5, bt_same (hk4 27 (by decide)), bt_same (hk3 27 (by decide)), hR27, wr_app (by rw [hRl]; omega)]
  have hp0l : (Rr ++ sfL (fF θ sh nn P (hdL (nI 0) (tgT T tt aa th hh))) K T aa tt (tgI T tt aa th hh)).length = (nn + tt * ((1 + aa) * nn)) := by rw [List.length_append, hRl, sfL_len]
  refine v_aload_n C eX12_slhSign_374 rfl 0 rfl ?_
  refine v_iload C eX12_slhSign_375 3 rfl ?_
  refine v_aload_n C eX12_slhSign_377 rfl 0 rfl ?_
  refine n_get C I fX12_78_X12 eX12_slhSign_378 (hN 49 (by decide)) hC5.obj rfl ?_
  refine v_aload_n C eX12_slhSign_381 rfl 0 rfl ?_
  refine n_get C I fX12_243_X12 eX12_slhSign_382 (hN 49 (by decide)) hC5.obj rfl ?_
  refine n_callV (As := [.int (nI (tgI T tt aa th hh)), .ref (ad 27), .int (nI nn)]) (rest := []) C I mX12_348 (rc_rootOfForest I hN hR5 (T := T) (mT := mm) (by rw [bt_same (hk5 35 (by omega)), bt_same (hk4 35 (by decide))]; exact hTl) hm64 h45 ha14 h46 ht35 (by omega) (kx := 27) (nx := 65536) rfl (by decide) (by decide) (tgI T tt aa th hh) nn (by omega) (by rw [hp0, sl_wr_lsl (by rw [hp0l]; omega)]; exact fun v hv => nrw_app hnR nrw_sfL v (List.mem_of_mem_drop (List.mem_of_mem_take hv)))) (hN 49 (by decide)) hC5.obj rfl (by omega) (by decide) ⟨by decide, by decide⟩ rfl (vi_c (hC5.i41.trans h41) (vi_k (vi_c (rfl : nI (tgI T tt aa th hh) = nI (tgI T tt aa th hh)) rfl))) (Nat.le_of_ble_eq_true rfl) eX12_slhSign_385 (fun r σ6 hp => ?_)
  obtain ⟨rfl, hR6, hk6, hv6, hw6⟩ := hp
  have hC6 := hR6.s
  have hv6' : sl (bt σ6 33) 0 nn = (rfL (fF θ sh nn P (hdL (nI 0) (tgT T tt aa th hh))) T aa tt nn (fun q => lsl (Rr ++ sfL (fF θ sh nn P (hdL (nI 0) (tgT T tt aa th hh))) K T aa tt (tgI T tt aa th hh)) q nn) (tgI T tt aa th hh) nn) := by rw [hv6, hp0]; exact rfL_congr (fun q h1 h2 => sl_wr_lsl (by rw [hp0l]; omega))
  refine v_aload_n C eX12_slhSign_388 rfl 0 rfl ?_
  refine n_get C I fX12_243_X12 eX12_slhSign_389 (hN 49 (by decide)) hC6.obj rfl ?_
  refine v_aload_n C eX12_slhSign_392 rfl 0 rfl ?_
  refine n_get C I fX12_255_X12 eX12_slhSign_393 (hN 49 (by decide)) hC6.obj rfl ?_
  refine v_iconst (v := (1 : Int32)) C eX12_slhSign_396 (by decide) ?_
  refine v_aload_n C eX12_slhSign_397 rfl 0 rfl ?_
  refine n_get C I fX12_252_X12 eX12_slhSign_398 (hN 49 (by decide)) hC6.obj rfl ?_
  refine v_iadd C eX12_slhSign_401 ?_
  refine v_imul C eX12_slhSign_402 ?_
  refine v_aload_n C eX12_slhSign_403 rfl 0 rfl ?_
  refine n_get C I fX12_243_X12 eX12_slhSign_404 (hN 49 (by decide)) hC6.obj rfl ?_
  refine v_imul C eX12_slhSign_407 ?_
  refine v_iadd C eX12_slhSign_408 ?_
  refine v_natT (show ((ox σ6) 41) + ((((ox σ6) 46) * (((1 : Int32)) + ((ox σ6) 45))) * ((ox σ6) 41)) = nI ((nn + tt * ((1 + aa) * nn)) + 0 * ((2 * nn + 3 + hh) * nn)) from ((ix_add (a := nn) (b := (tt * (1 + aa)) * nn) (hC6.i41.trans h41) (ix_mul (a := tt * (1 + aa)) (b := nn) (ix_mul (a := tt) (b := 1 + aa) (hC6.i46.trans h46) (ix_add (a := 1) (b := aa) (rfl : (1 : Int32) = nI 1) (hC6.i45.trans h45))) (hC6.i41.trans h41)))).trans (congrArg nI (by rw [htM, Nat.zero_mul]; rfl))) ?_
  refine v_istore (lv' := [(0, .ref (ad 49)), (2, .int (howI hw)), (3, .long (tgT T tt aa th hh)), (5, .int (nI (tgI T tt aa th hh))), (6, .int (nI ((nn + tt * ((1 + aa) * nn)) + 0 * ((2 * nn + 3 + hh) * nn))))]) C eX12_slhSign_409 (by decide) [1, 2, 3, 4, 0] rfl ?_
  refine v_iconst (v := nI 0) C eX12_slhSign_411 (by decide) ?_
  refine v_istore (lv' := [(0, .ref (ad 49)), (2, .int (howI hw)), (3, .long (tgT T tt aa th hh)), (5, .int (nI (tgI T tt aa th hh))), (6, .int (nI ((nn + tt * ((1 + aa) * nn)) + 0 * ((2 * nn + 3 + hh) * nn)))), (7, .int (nI 0))]) C eX12_slhSign_412 (by decide) [1, 2, 3, 4, 5, 0] rfl ?_
  refine v_forP (fun j τ => RS G ad θ x τ ∧ (∀ k, ¬ (13 ≤ k ∧ k ≤ 17 ∨ k = 49 ∨ k = 23 ∨ k = 25 ∨ k = 26 ∨ k = 27 ∨ k = 28 ∨ k = 30 ∨ k = 31 ∨ k = 32 ∨ k = 33 ∨ k = 34 ∨ k = 35 ∨ k = 36 ∨ k = 39 ∨ (58 < k ∧ k < 74)) → τ k = σ k) ∧ bt τ 27 = wr g27 0 (syP θ sh nn hh P K (tgT T tt aa th hh) (tgI T tt aa th hh) (Rr ++ sfL (fF θ sh nn P (hdL (nI 0) (tgT T tt aa th hh))) K T aa tt (tgI T tt aa th hh)) (rfL (fF θ sh nn P (hdL (nI 0) (tgT T tt aa th hh))) T aa tt nn (fun q => lsl (Rr ++ sfL (fF θ sh nn P (hdL (nI 0) (tgT T tt aa th hh))) K T aa tt (tgI T tt aa th hh)) q nn) (tgI T tt aa th hh) nn) j).1 ∧ sl (bt τ 33) 0 nn = (syP θ sh nn hh P K (tgT T tt aa th hh) (tgI T tt aa th hh) (Rr ++ sfL (fF θ sh nn P (hdL (nI 0) (tgT T tt aa th hh))) K T aa tt (tgI T tt aa th hh)) (rfL (fF θ sh nn P (hdL (nI 0) (tgT T tt aa th hh))) T aa tt nn (fun q => lsl (Rr ++ sfL (fF θ sh nn P (hdL (nI 0) (tgT T tt aa th hh))) K T aa tt (tgI T tt aa th hh)) q nn) (tgI T tt aa th hh) nn) j).2 ∧ nrw (sl (bt τ 33) 0 nn)) (fun j => [(0, .ref (ad 49)), (2, .int (howI hw)), (3, .long (lyT hh (tgT T tt aa th hh) j)), (5, .int (nI (lyI hh (tgT T tt aa th hh) (tgI T tt aa th hh) j))), (6, .int (nI ((nn + tt * ((1 + aa) * nn)) + j * ((2 * nn + 3 + hh) * nn)))), (7, .int (nI j))]) dd ?_ ?_ _ ⟨hC6, fun k hk => (hk6 k (by omega)).trans ((hk5 k (by omega)).trans ((hk4 k (by omega)).trans (hk3 k (by omega)))), (bt_same (hk6 27 (by decide))).trans hp0, hv6', hw6⟩
  · intro τ hI
    obtain ⟨hC7, hk7, hp7, hv7, hw7⟩ := hI
    refine v_iload C eX12_slhSign_414 5 rfl ?_
    refine v_aload_n C eX12_slhSign_416 rfl 0 rfl ?_
    refine n_get C I fX12_249_X12 eX12_slhSign_417 (hN 49 (by decide)) hC7.obj rfl ?_
    refine v_icmp_ge (tgt := 526) C eX12_slhSign_420 (by decide) (fun _ => ?_) (fun h => absurd (ix_le (a := dd) (b := dd) (hC7.i43.trans h43) (rfl : nI dd = nI dd) (by omega) (by omega) (by omega)) h)
    have hsl : (syP θ sh nn hh P K (tgT T tt aa th hh) (tgI T tt aa th hh) (Rr ++ sfL (fF θ sh nn P (hdL (nI 0) (tgT T tt aa th hh))) K T aa tt (tgI T tt aa th hh)) (rfL (fF θ sh nn P (hdL (nI 0) (tgT T tt aa th hh))) T aa tt nn (fun q => lsl (Rr ++ sfL (fF θ sh nn P (hdL (nI 0) (tgT T tt aa th hh))) K T aa tt (tgI T tt aa th hh)) q nn) (tgI T tt aa th hh) nn) dd).1.length = (nn + tt * ((1 + aa) * nn)) + dd * ((2 * nn + 3 + hh) * nn) := by rw [syP_len, hp0l]
    have h27 : sl (bt τ 27) 0 ((nn + tt * ((1 + aa) * nn)) + dd * ((2 * nn + 3 + hh) * nn)) = (syP θ sh nn hh P K (tgT T tt aa th hh) (tgI T tt aa th hh) (Rr ++ sfL (fF θ sh nn P (hdL (nI 0) (tgT T tt aa th hh))) K T aa tt (tgI T tt aa th hh)) (rfL (fF θ sh nn P (hdL (nI 0) (tgT T tt aa th hh))) T aa tt nn (fun q => lsl (Rr ++ sfL (fF θ sh nn P (hdL (nI 0) (tgT T tt aa th hh))) K T aa tt (tgI T tt aa th hh)) q nn) (tgI T tt aa th hh) nn) dd).1 := by rw [hp7, sl_wr' hsl]
    refine v_aload_n C eX12_slhSign_526 rfl 0 rfl ?_
    refine n_get C I fX12_78_X12 eX12_slhSign_527 (hN 49 (by decide)) hC7.obj rfl ?_
    refine v_iconst (v := (0 : Int32)) C eX12_slhSign_530 (by decide) ?_
    refine v_aload_n C eX12_slhSign_531 rfl 0 rfl ?_
    refine n_get C I fX12_16_X12 eX12_slhSign_532 (hN 49 (by decide)) hC7.obj rfl ?_
    refine v_iconst (v := (5 : Int32)) C eX12_slhSign_535 (by decide) ?_
    refine n_aald (b := ad 55) C I eX12_slhSign_536 (hN 1 (by decide)) hC7.slot 5 (rfl : (5 : Int32) = nI 5) (by omega) (by decide) (eRf_at (by omega)) ?_
    refine v_iconst (v := (0 : Int32)) C eX12_slhSign_537 (by decide) ?_
    refine v_iload C eX12_slhSign_538 4 rfl ?_
    refine n_callS (av := [.ref (ad 27), .int (nI 0), .ref (ad 55), .int (nI 0), .int (nI ((nn + tt * ((1 + aa) * nn)) + dd * ((2 * nn + 3 + hh) * nn)))]) (rest := []) C mX12_239 (rs_mv I hN hC7 (kx := 27) (nx := 65536) (ko := 55) (no := 65536) rfl (by decide) rfl (by decide) (by decide) 0 0 ((nn + tt * ((1 + aa) * nn)) + dd * ((2 * nn + 3 + hh) * nn)) (by omega) (by omega) (by rw [h27]; exact syP_nrw (nrw_app hnR nrw_sfL) dd)) rfl (by omega) (by decide) ⟨by decide, by decide⟩ rfl (vi_c (rfl : nI ((nn + tt * ((1 + aa) * nn)) + dd * ((2 * nn + 3 + hh) * nn)) = nI ((nn + tt * ((1 + aa) * nn)) + dd * ((2 * nn + 3 + hh) * nn))) (vi_c (rfl : (0 : Int32) = nI 0) (vi_k (vi_c (rfl : (0 : Int32) = nI 0) (vi_k rfl))))) (Nat.le_of_ble_eq_true rfl) eX12_slhSign_540 (fun r σ8 hp => ?_)
    obtain ⟨rfl, hC8, hk8, hv8⟩ := hp
    refine v_aload_n C eX12_slhSign_543 rfl 0 rfl ?_
    refine n_get C I fX12_19_X12 eX12_slhSign_544 (hN 49 (by decide)) hC8.obj rfl ?_
    refine v_iconst (v := (5 : Int32)) C eX12_slhSign_547 (by decide) ?_
    refine v_iload C eX12_slhSign_548 4 rfl ?_
    refine n_iast C I eX12_slhSign_550 (hN 2 (by decide)) hC8.len 5 (rfl : (5 : Int32) = nI 5) (by omega) (by decide) ?_
    refine v_pic (fun σ9 hσ9 => ?_)
    have hC9 : RS G ad θ x σ9 := by rw [hσ9]; exact hC8.upI (Or.inl ⟨rfl, rfl⟩) _
    have hk9 : ∀ k, ¬ (k = 2) → σ9 k = σ8 k := fun k hk => by rw [hσ9]; exact n_ne hk
    have hv9 : bt σ9 2 = upd (bt σ8 2) 5 (nI ((nn + tt * ((1 + aa) * nn)) + dd * ((2 * nn + 3 + hh) * nn))) := by rw [hσ9]; exact bt_I (G := G) (n := 8) (n_self (σ := σ8))
    refine v_iload C eX12_slhSign_551 4 rfl ?_
    refine n_iret C rfl eX12_slhSign_553 (hPost _ _ ⟨by rw [hL5], hC9, fun k hk => (hk9 k (by omega)).trans ((hk8 k (by omega)).trans (hk7 k (by omega))), ?_, ?_⟩)
    · rw [hv9, bt_same (hk8 2 (by decide)), bt_same (hk7 2 (by omega)), hL5]
    · rw [bt_same (hk9 55 (by decide)), hv8, ← hL5, sl_wr' sl_len, h27, hTd]; rfl
  · intro j hj ih τ hI
    obtain ⟨hC7, hk7, hp7, hv7, hw7⟩ := hI
    refine v_iload C eX12_slhSign_414 5 rfl ?_
    refine v_aload_n C eX12_slhSign_416 rfl 0 rfl ?_
    refine n_get C I fX12_249_X12 eX12_slhSign_417 (hN 49 (by decide)) hC7.obj rfl ?_
    refine v_icmp_ge (tgt := 526) C eX12_slhSign_420 (by decide) (fun h => absurd h (ix_nle (a := dd) (b := j) (hC7.i43.trans h43) (rfl : nI j = nI j) (by omega) (by omega) (by omega))) (fun _ => ?_)
    refine v_aload_n C eX12_slhSign_423 rfl 0 rfl ?_
    refine v_iload C eX12_slhSign_424 5 rfl ?_
    refine v_lload_n C eX12_slhSign_426 rfl 2 rfl ?_
    have hjM : j * ((2 * nn + 3 + hh) * nn) + ((2 * nn + 3 + hh) * nn) ≤ dd * ((2 * nn + 3 + hh) * nn) := by rw [← Nat.succ_mul]; exact Nat.mul_le_mul_right _ hj
    have hij := lyI_lt (tr := (tgT T tt aa th hh)) hi0 j
    have hsl : (syP θ sh nn hh P K (tgT T tt aa th hh) (tgI T tt aa th hh) (Rr ++ sfL (fF θ sh nn P (hdL (nI 0) (tgT T tt aa th hh))) K T aa tt (tgI T tt aa th hh)) (rfL (fF θ sh nn P (hdL (nI 0) (tgT T tt aa th hh))) T aa tt nn (fun q => lsl (Rr ++ sfL (fF θ sh nn P (hdL (nI 0) (tgT T tt aa th hh))) K T aa tt (tgI T tt aa th hh)) q nn) (tgI T tt aa th hh) nn) j).1.length = (nn + tt * ((1 + aa) * nn)) + j * ((2 * nn + 3 + hh) * nn) := by rw [syP_len, hp0l]
    refine n_callV (As := [.int (nI j), .long (lyT hh (tgT T tt aa th hh) j)]) (rest := []) C I mX12_321 (rs_place I hN hC7 (nI j) (lyT hh (tgT T tt aa th hh) j)) (hN 49 (by decide)) hC7.obj rfl (by omega) (by decide) ⟨by decide, by decide⟩ rfl (vi_k (vi_c (rfl : nI j = nI j) rfl)) (Nat.le_of_ble_eq_true rfl) eX12_slhSign_427 (fun r σ8 hp => ?_)
    obtain ⟨rfl, hC8, hk8, hv8⟩ := hp
    refine v_aload_n C eX12_slhSign_430 rfl 0 rfl ?_
    refine n_get C I fX12_96_X12 eX12_slhSign_431 (hN 49 (by decide)) hC8.obj rfl ?_
    refine v_iconst (v := (0 : Int32)) C eX12_slhSign_434 (by decide) ?_
    refine v_aload_n C eX12_slhSign_435 rfl 0 rfl ?_
    refine n_get C I fX12_114_X12 eX12_slhSign_436 (hN 49 (by decide)) hC8.obj rfl ?_
    refine v_iconst (v := (0 : Int32)) C eX12_slhSign_439 (by decide) ?_
    refine v_aload_n C eX12_slhSign_440 rfl 0 rfl ?_
    refine n_get C I fX12_243_X12 eX12_slhSign_441 (hN 49 (by decide)) hC8.obj rfl ?_
    refine n_callS (av := [.ref (ad 33), .int (nI 0), .ref (ad 39), .int (nI 0), .int (nI nn)]) (rest := []) C mX12_239 (rs_mv I hN hC8 (kx := 33) (nx := 64) (ko := 39) (no := 32) rfl (by decide) rfl (by decide) (by decide) 0 0 nn (by omega) (by omega) (by rw [bt_same (hk8 33 (by decide))]; exact hw7)) rfl (by omega) (by decide) ⟨by decide, by decide⟩ rfl (vi_c (hC8.i41.trans h41) (vi_c (rfl : (0 : Int32) = nI 0) (vi_k (vi_c (rfl : (0 : Int32) = nI 0) (vi_k rfl))))) (Nat.le_of_ble_eq_true rfl) eX12_slhSign_444 (fun r σ9 hp => ?_)
    obtain ⟨rfl, hC9, hk9, hv9⟩ := hp
    have hR9 : RC G ad θ x sh nn P (hdL (nI j) (lyT hh (tgT T tt aa th hh) j)) K σ9 := ⟨hC9, ⟨h41, hnn, h48⟩, by rw [bt_same (hk9 28 (by decide))]; exact hv8, by rw [bt_same (hk9 37 (by decide)), bt_same (hk8 37 (by decide)), bt_same (hk7 37 (by omega))]; exact hPP, by rw [bt_same (hk9 38 (by decide)), bt_same (hk8 38 (by decide)), bt_same (hk7 38 (by omega))]; exact hKK⟩
    have h39 : sl (bt σ9 39) 0 nn = (syP θ sh nn hh P K (tgT T tt aa th hh) (tgI T tt aa th hh) (Rr ++ sfL (fF θ sh nn P (hdL (nI 0) (tgT T tt aa th hh))) K T aa tt (tgI T tt aa th hh)) (rfL (fF θ sh nn P (hdL (nI 0) (tgT T tt aa th hh))) T aa tt nn (fun q => lsl (Rr ++ sfL (fF θ sh nn P (hdL (nI 0) (tgT T tt aa th hh))) K T aa tt (tgI T tt aa th hh)) q nn) (tgI T tt aa th hh) nn) j).2 := by rw [hv9, sl_wr' sl_len, bt_same (hk8 33 (by decide)), hv7]
    refine v_aload_n C eX12_slhSign_447 rfl 0 rfl ?_
    refine v_aload_n C eX12_slhSign_448 rfl 0 rfl ?_
    refine n_get C I fX12_114_X12 eX12_slhSign_449 (hN 49 (by decide)) hC9.obj rfl ?_
    refine v_iconst (v := (0 : Int32)) C eX12_slhSign_452 (by decide) ?_
    refine v_iload C eX12_slhSign_453 3 rfl ?_
    refine v_aload_n C eX12_slhSign_455 rfl 0 rfl ?_
    refine n_get C I fX12_78_X12 eX12_slhSign_456 (hN 49 (by decide)) hC9.obj rfl ?_
    refine v_iload C eX12_slhSign_459 4 rfl ?_
    refine n_callV (As := [.ref (ad 39), .int (nI 0), .int (nI (lyI hh (tgT T tt aa th hh) (tgI T tt aa th hh) j)), .ref (ad 27), .int (nI ((nn + tt * ((1 + aa) * nn)) + j * ((2 * nn + 3 + hh) * nn)))]) (rest := []) C I mX12_351 (rc_signTree I hN hR9 h47 h44 hh9.2 (kx := 39) (nx := 32) rfl (by decide) (ko := 27) (no := 65536) rfl (by decide) (by decide) (by decide) (by decide) 0 (lyI hh (tgT T tt aa th hh) (tgI T tt aa th hh) j) ((nn + tt * ((1 + aa) * nn)) + j * ((2 * nn + 3 + hh) * nn)) (by omega) hij (by omega)) (hN 49 (by decide)) hC9.obj rfl (by omega) (by decide) ⟨by decide, by decide⟩ rfl (vi_c (rfl : nI ((nn + tt * ((1 + aa) * nn)) + j * ((2 * nn + 3 + hh) * nn)) = nI ((nn + tt * ((1 + aa) * nn)) + j * ((2 * nn + 3 + hh) * nn))) (vi_k (vi_c (rfl : nI (lyI hh (tgT T tt aa th hh) (tgI T tt aa th hh) j) = nI (lyI hh (tgT T tt aa th hh) (tgI T tt aa th hh) j)) (vi_c (rfl : (0 : Int32) = nI 0) (vi_k rfl))))) (Nat.le_of_ble_eq_true rfl) eX12_slhSign_461 (fun r σA hp => ?_)
    obtain ⟨rfl, hRA, hkA, hvA⟩ := hp
    have hCA := hRA.s
    have hpA : bt σA 27 = wr g27 0 (syP θ sh nn hh P K (tgT T tt aa th hh) (tgI T tt aa th hh) (Rr ++ sfL (fF θ sh nn P (hdL (nI 0) (tgT T tt aa th hh))) K T aa tt (tgI T tt aa th hh)) (rfL (fF θ sh nn P (hdL (nI 0) (tgT T tt aa th hh))) T aa tt nn (fun q => lsl (Rr ++ sfL (fF θ sh nn P (hdL (nI 0) (tgT T tt aa th hh))) K T aa tt (tgI T tt aa th hh)) q nn) (tgI T tt aa th hh) nn) (j + 1)).1 := by rw [hvA, h39, bt_same (hk9 27 (by decide)), bt_same (hk8 27 (by decide)), hp7, wr_app (by rw [hsl, Nat.zero_add]), syP_1]
    have hslA : (syP θ sh nn hh P K (tgT T tt aa th hh) (tgI T tt aa th hh) (Rr ++ sfL (fF θ sh nn P (hdL (nI 0) (tgT T tt aa th hh))) K T aa tt (tgI T tt aa th hh)) (rfL (fF θ sh nn P (hdL (nI 0) (tgT T tt aa th hh))) T aa tt nn (fun q => lsl (Rr ++ sfL (fF θ sh nn P (hdL (nI 0) (tgT T tt aa th hh))) K T aa tt (tgI T tt aa th hh)) q nn) (tgI T tt aa th hh) nn) (j + 1)).1.length = (nn + tt * ((1 + aa) * nn)) + (j * ((2 * nn + 3 + hh) * nn) + ((2 * nn + 3 + hh) * nn)) := by rw [syP_len, hp0l, Nat.succ_mul j]
    refine v_aload_n C eX12_slhSign_464 rfl 0 rfl ?_
    refine v_iload C eX12_slhSign_465 3 rfl ?_
    refine v_aload_n C eX12_slhSign_467 rfl 0 rfl ?_
    refine n_get C I fX12_78_X12 eX12_slhSign_468 (hN 49 (by decide)) hCA.obj rfl ?_
    refine v_iload C eX12_slhSign_471 4 rfl ?_
    refine v_aload_n C eX12_slhSign_473 rfl 0 rfl ?_
    refine n_get C I fX12_114_X12 eX12_slhSign_474 (hN 49 (by decide)) hCA.obj rfl ?_
    refine v_iconst (v := (0 : Int32)) C eX12_slhSign_477 (by decide) ?_
    refine n_callV (As := [.int (nI (lyI hh (tgT T tt aa th hh) (tgI T tt aa th hh) j)), .ref (ad 27), .int (nI ((nn + tt * ((1 + aa) * nn)) + j * ((2 * nn + 3 + hh) * nn))), .ref (ad 39), .int (nI 0)]) (rest := []) C I mX12_354 (rc_rootOf I hN hRA h47 h44 hh9.2 (kx := 27) (nx := 65536) rfl (by decide) (ky := 39) (ny := 32) rfl (by decide) (by decide) (lyI hh (tgT T tt aa th hh) (tgI T tt aa th hh) j) ((nn + tt * ((1 + aa) * nn)) + j * ((2 * nn + 3 + hh) * nn)) 0 hij (by omega) (by omega) (by rw [hpA, sl_wr_lsl (by rw [hslA]; omega)]; exact fun v hv => syP_nrw (nrw_app hnR nrw_sfL) (j + 1) v (List.mem_of_mem_drop (List.mem_of_mem_take hv)))) (hN 49 (by decide)) hCA.obj rfl (by omega) (by decide) ⟨by decide, by decide⟩ rfl (vi_c (rfl : (0 : Int32) = nI 0) (vi_k (vi_c (rfl : nI ((nn + tt * ((1 + aa) * nn)) + j * ((2 * nn + 3 + hh) * nn)) = nI ((nn + tt * ((1 + aa) * nn)) + j * ((2 * nn + 3 + hh) * nn))) (vi_k (vi_c (rfl : nI (lyI hh (tgT T tt aa th hh) (tgI T tt aa th hh) j) = nI (lyI hh (tgT T tt aa th hh) (tgI T tt aa th hh) j)) rfl))))) (Nat.le_of_ble_eq_true rfl) eX12_slhSign_478 (fun r σB hp => ?_)
    obtain ⟨rfl, hRB, hkB, hvB, hwB⟩ := hp
    have hCB := hRB.s
    refine v_iload C eX12_slhSign_481 4 rfl ?_
    refine v_aload_n C eX12_slhSign_483 rfl 0 rfl ?_
    refine n_get C I fX12_261_X12 eX12_slhSign_484 (hN 49 (by decide)) hCB.obj rfl ?_
    refine v_aload_n C eX12_slhSign_487 rfl 0 rfl ?_
    refine n_get C I fX12_258_X12 eX12_slhSign_488 (hN 49 (by decide)) hCB.obj rfl ?_
    refine v_iadd C eX12_slhSign_491 ?_
    refine v_aload_n C eX12_slhSign_492 rfl 0 rfl ?_
    refine n_get C I fX12_243_X12 eX12_slhSign_493 (hN 49 (by decide)) hCB.obj rfl ?_
    refine v_imul C eX12_slhSign_496 ?_
    refine v_iadd C eX12_slhSign_497 ?_
    refine v_natT (show (nI ((nn + tt * ((1 + aa) * nn)) + j * ((2 * nn + 3 + hh) * nn))) + ((((ox σB) 47) + ((ox σB) 44)) * ((ox σB) 41)) = nI ((nn + tt * ((1 + aa) * nn)) + (j + 1) * ((2 * nn + 3 + hh) * nn)) from ((ix_add (a := (nn + tt * ((1 + aa) * nn)) + j * ((2 * nn + 3 + hh) * nn)) (b := ((2 * nn + 3) + hh) * nn) (rfl : nI ((nn + tt * ((1 + aa) * nn)) + j * ((2 * nn + 3 + hh) * nn)) = nI ((nn + tt * ((1 + aa) * nn)) + j * ((2 * nn + 3 + hh) * nn))) (ix_mul (a := (2 * nn + 3) + hh) (b := nn) (ix_add (a := 2 * nn + 3) (b := hh) (hCB.i47.trans h47) (hCB.i44.trans h44)) (hCB.i41.trans h41)))).trans (congrArg nI (by rw [Nat.succ_mul j]; omega))) ?_
    refine v_istore (lv' := [(0, .ref (ad 49)), (2, .int (howI hw)), (3, .long (lyT hh (tgT T tt aa th hh) j)), (5, .int (nI (lyI hh (tgT T tt aa th hh) (tgI T tt aa th hh) j))), (6, .int (nI ((nn + tt * ((1 + aa) * nn)) + (j + 1) * ((2 * nn + 3 + hh) * nn)))), (7, .int (nI j))]) C eX12_slhSign_498 (by decide) [1, 2, 3, 4, 0, 5] rfl ?_
    refine v_lload_n C eX12_slhSign_500 rfl 2 rfl ?_
    refine v_lconst (v := (1 : Int64)) C eX12_slhSign_501 (by decide) ?_
    refine v_aload_n C eX12_slhSign_502 rfl 0 rfl ?_
    refine n_get C I fX12_258_X12 eX12_slhSign_503 (hN 49 (by decide)) hCB.obj rfl ?_
    refine v_natT (show (ox σB) 44 = nI hh from (hCB.i44.trans h44)) ?_
    refine v_lshl C eX12_slhSign_506 ?_
    refine v_lconst (v := (1 : Int64)) C eX12_slhSign_507 (by decide) ?_
    refine v_lsub C eX12_slhSign_508 ?_
    refine v_land C eX12_slhSign_509 ?_
    refine v_l2i C eX12_slhSign_510 ?_
    refine v_natT (show ((lyT hh (tgT T tt aa th hh) j) &&& ((((1 : Int64)) <<< ((nI hh).toInt64 &&& 63)) - ((1 : Int64)))).toInt32 = nI (lyI hh (tgT T tt aa th hh) (tgI T tt aa th hh) (j + 1)) from prI_eq hh9.2) ?_
    refine v_istore (lv' := [(0, .ref (ad 49)), (2, .int (howI hw)), (3, .long (lyT hh (tgT T tt aa th hh) j)), (5, .int (nI (lyI hh (tgT T tt aa th hh) (tgI T tt aa th hh) (j + 1)))), (6, .int (nI ((nn + tt * ((1 + aa) * nn)) + (j + 1) * ((2 * nn + 3 + hh) * nn)))), (7, .int (nI j))]) C eX12_slhSign_511 (by decide) [1, 2, 3, 0, 4, 5] rfl ?_
    refine v_lload_n C eX12_slhSign_513 rfl 2 rfl ?_
    refine v_aload_n C eX12_slhSign_514 rfl 0 rfl ?_
    refine n_get C I fX12_258_X12 eX12_slhSign_515 (hN 49 (by decide)) hCB.obj rfl ?_
    refine v_natT (show (ox σB) 44 = nI hh from (hCB.i44.trans h44)) ?_
    refine v_lushr C eX12_slhSign_518 ?_
    refine v_lstore_n (lv' := [(0, .ref (ad 49)), (2, .int (howI hw)), (3, .long (lyT hh (tgT T tt aa th hh) (j + 1))), (5, .int (nI (lyI hh (tgT T tt aa th hh) (tgI T tt aa th hh) (j + 1)))), (6, .int (nI ((nn + tt * ((1 + aa) * nn)) + (j + 1) * ((2 * nn + 3 + hh) * nn)))), (7, .int (nI j))]) C eX12_slhSign_519 rfl (by decide) [1, 2, 0, 3, 4, 5] rfl ?_
    refine v_iinc (lv' := [(0, .ref (ad 49)), (2, .int (howI hw)), (3, .long (lyT hh (tgT T tt aa th hh) (j + 1))), (5, .int (nI (lyI hh (tgT T tt aa th hh) (tgI T tt aa th hh) (j + 1)))), (6, .int (nI ((nn + tt * ((1 + aa) * nn)) + (j + 1) * ((2 * nn + 3 + hh) * nn)))), (7, .int (nI (j + 1)))]) C eX12_slhSign_520 5 rfl (ix_inc _) (by decide) [1, 2, 3, 4, 5, 0] rfl ?_
    refine v_goto (tgt := 414) C eX12_slhSign_523 (by decide) ?_
    refine ih σB ⟨hCB, fun k hk => (hkB k (by omega)).trans ((hkA k (by omega)).trans ((hk9 k (by omega)).trans ((hk8 k (by omega)).trans (hk7 k hk)))), (bt_same (hkB 27 (by decide))).trans hpA, ?_, hwB⟩
    rw [hvB, bt_same (hkA 39 (by omega)), h39, hpA, syP_2]
    refine rtL_congr (fun q hq => ?_)
    have hqn : q * nn + nn ≤ (2 * nn + 3 + hh) * nn := by rw [← Nat.succ_mul]; exact Nat.mul_le_mul_right _ hq
    rw [sl_wr_lsl (by rw [hslA]; omega), hsl]

end M29
