def tgT (T : List Int32) (tt aa th hh : Nat) : Int64 := trN T ((tt * aa + 7) / 8) ((th - hh + 7) / 8) (th - hh)
def tgI (T : List Int32) (tt aa th hh : Nat) : Nat := prS T ((tt * aa + 7) / 8 + (th - hh + 7) / 8) ((hh + 7) / 8) % 2 ^ hh
theorem tgI_lt {T : List Int32} {tt aa th hh : Nat} : tgI T tt aa th hh < 2 ^ hh := Nat.mod_lt _ (Nat.two_pow_pos hh)
/-- the roots from layer to layer -/
def vyW (θ : tT) (sh : Bool) (nn hh : Nat) (P : List Int32) (tr : Int64) (i0 : Nat) (PK : List Int32) (a0 : Nat) (w0 : List Int32) : Nat → List Int32
  | 0 => w0
  | k + 1 => rtL (fF θ sh nn P (hdL (nI k) (lyT hh tr k))) (2 * nn + 3) hh (digL nn (vyW θ sh nn hh P tr i0 PK a0 w0 k)) (fun q => lsl PK (a0 + k * ((2 * nn + 3 + hh) * nn) + q * nn) nn) (lyI hh tr i0 k)
section M28
variable {G : vG} {B : Nat} {l : Launch} {ad : Nat → Nat} {N : Nat} {θ : tT} {x : Nat → Int32} {σ : nS} {sh : Bool} {nn : Nat} {P H K : List Int32}
theorem rs_digestTree (I : nI1 ad N) (hN : ∀ k, k < 74 → k < N) (hC : RS G ad θ x σ) {tt aa th hh dd : Nat} (h41 : x 41 = nI nn) (hnn : nn = 16 ∨ nn = 24 ∨ nn = 32) (h42 : x 42 = nI th) (h43 : x 43 = nI dd) (h44 : x 44 = nI hh) (hh9 : 1 ≤ hh ∧ hh ≤ 9) (h45 : x 45 = nI aa) (ha14 : aa ≤ 14) (h46 : x 46 = nI tt) (ht35 : tt ≤ 35) (h47 : x 47 = nI (2 * nn + 3)) (h48 : x 48 = if sh then 1 else 0) (hht : hh ≤ th) (hth : th ≤ 100) (hdd : dd ≤ 22) {mm : Nat} (hmm : (tt * aa + 7) / 8 + (th - hh + 7) / 8 + (hh + 7) / 8 = mm) (hm64 : mm ≤ 64) (hw : Bool) {l3 l4 : Nat} (h3 : bt σ 2 3 = nI l3) (h4 : bt σ 2 4 = nI l4) (hl3 : l3 ≤ 65536) (hl4 : l4 ≤ 65536) {kx nx : Nat} (hkx : rLn kx = nx) (hx0 : 0 < nx) (hf : kx ≠ 26 ∧ kx ≠ 25) (a : Nat) (ha : a + nn ≤ nx) (hnr : nrw (sl (bt σ kx) a nn)) (hnp : nrw (sl (bt σ 37) 0 nn)) : nOk G B l ad N yX12_digestTree cX12_digestTree 6 none 7 0 0 [.ref (ad 49), .ref (ad kx), .int (nI a), .int (howI hw)] σ (fun r σ' => r = none ∧ RS G ad θ x σ' ∧ (∀ k, ¬ (13 ≤ k ∧ k ≤ 17 ∨ k = 49 ∨ k = 23 ∨ k = 25 ∨ k = 26 ∨ k = 35) → σ' k = σ k) ∧ bt σ' 35 = wr (bt σ 35) 0 (dtL θ sh nn mm (sl (bt σ kx) a nn) (sl (bt σ 37) 0 nn) (sl (bt σ 40) 0 nn) (sgM hw (sl (bt σ 54) 0 l4) (sl (bt σ 53) 0 l3)))) := by
  have hb1 : tt * aa < 2 ^ 20 := Nat.lt_of_le_of_lt (Nat.mul_le_mul ht35 ha14) (by decide)
  cases sh with
  | true => exact rs_digestTree12 I hN hC h41 h42 h44 h45 h46 hht hb1 (by omega) hnn h48 hmm hm64 hw h3 h4 hl3 hl4 hkx hx0 hf a ha hnr hnp
  | false =>
    by_cases q : nn = 16
    · exact rs_digestTree1 I hN hC h41 h42 h44 h45 h46 hht hb1 (by omega) q h48 hmm hm64 hw h3 h4 hl3 hl4 hkx hx0 hf a ha hnr hnp
    · exact rs_digestTree3 I hN hC h41 h42 h44 h45 h46 hht hb1 (by omega) (by omega) h48 hmm hm64 hw h3 h4 hl3 hl4 hkx hx0 hf a ha hnr hnp
/-- the root that a packet leads to -/
def vyR (θ : tT) (sh : Bool) (nn hh aa tt th dd : Nat) (P T PK : List Int32) : List Int32 := vyW θ sh nn hh P (tgT T tt aa th hh) (tgI T tt aa th hh) PK (nn + tt * ((1 + aa) * nn)) (rfL (fF θ sh nn P (hdL (nI 0) (tgT T tt aa th hh))) T aa tt nn (fun q => lsl PK q nn) (tgI T tt aa th hh) nn) dd
set_option maxRecDepth 100000 in
set_option maxHeartbeats 4000000 in
theorem rs_verifyB (I : nI1 ad N) (hN : ∀ k, k < 74 → k < N) {p : Program} {e : Env} {R : Room} {s : State} {m : MethodId} {args : Array Value} {below : List Frame} {meth : Method} {c : Code}  (C : vC G B p m meth c cX12_slhVerify 8 (some .boolean) s args yX12_slhVerify.cls) (hC : RS G ad θ x σ) {tt aa th hh dd : Nat} (h41 : x 41 = nI nn) (hnn : nn = 16 ∨ nn = 24 ∨ nn = 32) (h42 : x 42 = nI th) (h43 : x 43 = nI dd) (h44 : x 44 = nI hh) (hh9 : 1 ≤ hh ∧ hh ≤ 9) (h45 : x 45 = nI aa) (ha14 : aa ≤ 14) (h46 : x 46 = nI tt) (ht35 : tt ≤ 35) (h47 : x 47 = nI (2 * nn + 3)) (h48 : x 48 = if sh then 1 else 0) (hht : hh ≤ th) (hth : th ≤ 100) (hdd : dd ≤ 22) {mm : Nat} (hmm : (tt * aa + 7) / 8 + (th - hh + 7) / 8 + (hh + 7) / 8 = mm) (hm64 : mm ≤ 64) (hw : Bool) {l3 l4 : Nat} (h3 : bt σ 2 3 = nI l3) (h4 : bt σ 2 4 = nI l4) (hl3 : l3 ≤ 65536) (hl4 : l4 ≤ 65536) (hn1 : nrw (sl (bt σ 51) 0 (2 * nn))) {L5 : Nat} (hL5 : (nn + tt * ((1 + aa) * nn)) + dd * ((2 * nn + 3 + hh) * nn) = L5) (hL65 : L5 ≤ 65536) (hn5 : nrw (sl (bt σ 55) 0 L5)) {d1 : Nat} (hR : R = vRm d1 0 0) (hd1 : 40 ≤ d1) {Post : Option Value → nS → Prop} (hPost : ∀ r σ', r = some (.int (if vyR θ sh nn hh aa tt th dd (sl (bt σ 51) 0 nn) (dtL θ sh nn mm (sl (bt σ 55) 0 nn) (sl (bt σ 51) 0 nn) (sl (bt σ 51) nn nn) (sgM hw (sl (bt σ 54) 0 l4) (sl (bt σ 53) 0 l3))) (sl (bt σ 55) 0 L5) = sl (bt σ 51) nn nn then 1 else 0)) ∧ RS G ad θ x σ' ∧ (∀ k, ¬ (13 ≤ k ∧ k ≤ 17 ∨ k = 49 ∨ k = 2 ∨ k = 23 ∨ k = 25 ∨ k = 26 ∨ k = 28 ∨ k = 30 ∨ k = 31 ∨ k = 33 ∨ k = 34 ∨ k = 35 ∨ k = 36 ∨ k = 37 ∨ k = 39 ∨ k = 40 ∨ k = 56) → σ' k = σ k) ∧ bt σ' 2 = upd (bt σ 2) 6 (nI nn) ∧ sl (bt σ' 56) 0 nn = vyR θ sh nn hh aa tt th dd (sl (bt σ 51) 0 nn) (dtL θ sh nn mm (sl (bt σ 55) 0 nn) (sl (bt σ 51) 0 nn) (sl (bt σ 51) nn nn) (sgM hw (sl (bt σ 54) 0 l4) (sl (bt σ 53) 0 l3))) (sl (bt σ 55) 0 L5) → Post r σ') : V G B p l e R s m args below meth c 8 0 0 (MQ below (vQ G B (fun r w' => ∃ σ' : nS, w' = nW ad N σ' ∧ Post r σ')) args s 0 0 (fun q => B ≤ q)) (nW ad N σ) 126 [(0, .ref (ad 49)), (2, .int (howI hw))] [] := by
  subst hR
  have hM : (1 + aa) * nn = nn + aa * nn := by rw [Nat.add_mul, Nat.one_mul]
  have hb1 : tt * aa < 2 ^ 20 := Nat.lt_of_le_of_lt (Nat.mul_le_mul ht35 ha14) (by decide)
  have hcn : (2 * nn + 3) * nn ≤ 2144 := by rcases hnn with h | h | h <;> subst h <;> decide
  have hhn : hh * nn ≤ 9 * 32 := Nat.mul_le_mul hh9.2 (by omega)
  have hmul : (2 * nn + 3 + hh) * nn = (2 * nn + 3) * nn + hh * nn := Nat.add_mul _ _ _
  have htM : tt * (1 + aa) * nn = tt * ((1 + aa) * nn) := Nat.mul_assoc _ _ _
  have htM2 : tt * (1 + aa) ≤ 35 * 15 := Nat.mul_le_mul ht35 (by omega)
  refine v_aload_n C eX12_slhVerify_126 rfl 0 rfl ?_
  refine n_get C I fX12_16_X12 eX12_slhVerify_127 (hN 49 (by decide)) hC.obj rfl ?_
  refine v_iconst (v := (1 : Int32)) C eX12_slhVerify_130 (by decide) ?_
  refine n_aald (b := ad 51) C I eX12_slhVerify_131 (hN 1 (by decide)) hC.slot 1 (rfl : (1 : Int32) = nI 1) (by omega) (by decide) (eRf_at (by omega)) ?_
  refine v_iconst (v := (0 : Int32)) C eX12_slhVerify_132 (by decide) ?_
  refine v_aload_n C eX12_slhVerify_133 rfl 0 rfl ?_
  refine n_get C I fX12_108_X12 eX12_slhVerify_134 (hN 49 (by decide)) hC.obj rfl ?_
  refine v_iconst (v := (0 : Int32)) C eX12_slhVerify_137 (by decide) ?_
  refine v_aload_n C eX12_slhVerify_138 rfl 0 rfl ?_
  refine n_get C I fX12_243_X12 eX12_slhVerify_139 (hN 49 (by decide)) hC.obj rfl ?_
  refine n_callS (av := [.ref (ad 51), .int (nI 0), .ref (ad 37), .int (nI 0), .int (nI nn)]) (rest := []) C mX12_239 (rs_mv I hN hC (kx := 51) (nx := 65536) (ko := 37) (no := 32) rfl (by decide) rfl (by decide) (by decide) 0 0 nn (by omega) (by omega) (nrw_sub hn1 (by omega) (by omega))) rfl (by omega) (by decide) ⟨by decide, by decide⟩ rfl (vi_c (hC.i41.trans h41) (vi_c (rfl : (0 : Int32) = nI 0) (vi_k (vi_c (rfl : (0 : Int32) = nI 0) (vi_k rfl))))) (Nat.le_of_ble_eq_true rfl) eX12_slhVerify_142 (fun r σ1 hp => ?_)
  obtain ⟨rfl, hC1, hk1, hv1⟩ := hp
  refine v_aload_n C eX12_slhVerify_145 rfl 0 rfl ?_
  refine n_get C I fX12_16_X12 eX12_slhVerify_146 (hN 49 (by decide)) hC1.obj rfl ?_
  refine v_iconst (v := (1 : Int32)) C eX12_slhVerify_149 (by decide) ?_
  refine n_aald (b := ad 51) C I eX12_slhVerify_150 (hN 1 (by decide)) hC1.slot 1 (rfl : (1 : Int32) = nI 1) (by omega) (by decide) (eRf_at (by omega)) ?_
  refine v_aload_n C eX12_slhVerify_151 rfl 0 rfl ?_
  refine n_get C I fX12_243_X12 eX12_slhVerify_152 (hN 49 (by decide)) hC1.obj rfl ?_
  refine v_aload_n C eX12_slhVerify_155 rfl 0 rfl ?_
  refine n_get C I fX12_117_X12 eX12_slhVerify_156 (hN 49 (by decide)) hC1.obj rfl ?_
  refine v_iconst (v := (0 : Int32)) C eX12_slhVerify_159 (by decide) ?_
  refine v_aload_n C eX12_slhVerify_160 rfl 0 rfl ?_
  refine n_get C I fX12_243_X12 eX12_slhVerify_161 (hN 49 (by decide)) hC1.obj rfl ?_
  refine n_callS (av := [.ref (ad 51), .int (nI nn), .ref (ad 40), .int (nI 0), .int (nI nn)]) (rest := []) C mX12_239 (rs_mv I hN hC1 (kx := 51) (nx := 65536) (ko := 40) (no := 32) rfl (by decide) rfl (by decide) (by decide) nn 0 nn (by omega) (by omega) (by rw [bt_same (hk1 51 (by decide))]; exact nrw_sub hn1 (by omega) (by omega))) rfl (by omega) (by decide) ⟨by decide, by decide⟩ rfl (vi_c (hC1.i41.trans h41) (vi_c (rfl : (0 : Int32) = nI 0) (vi_k (vi_c (hC1.i41.trans h41) (vi_k rfl))))) (Nat.le_of_ble_eq_true rfl) eX12_slhVerify_164 (fun r σ2 hp => ?_)
  obtain ⟨rfl, hC2, hk2, hv2⟩ := hp
  have h37 : sl (bt σ2 37) 0 nn = sl (bt σ 51) 0 nn := by rw [bt_same (hk2 37 (by decide)), hv1, sl_wr' sl_len]
  have h40 : sl (bt σ2 40) 0 nn = sl (bt σ 51) nn nn := by rw [hv2, sl_wr' sl_len, bt_same (hk1 51 (by decide))]
  have k2 : ∀ k, ¬ (k = 37 ∨ k = 40) → σ2 k = σ k := fun k hk => (hk2 k (by omega)).trans (hk1 k (by omega))
  refine v_aload_n C eX12_slhVerify_167 rfl 0 rfl ?_
  refine v_aload_n C eX12_slhVerify_168 rfl 0 rfl ?_
  refine n_get C I fX12_16_X12 eX12_slhVerify_169 (hN 49 (by decide)) hC2.obj rfl ?_
  refine v_iconst (v := (5 : Int32)) C eX12_slhVerify_172 (by decide) ?_
  refine n_aald (b := ad 55) C I eX12_slhVerify_173 (hN 1 (by decide)) hC2.slot 5 (rfl : (5 : Int32) = nI 5) (by omega) (by decide) (eRf_at (by omega)) ?_
  refine v_iconst (v := (0 : Int32)) C eX12_slhVerify_174 (by decide) ?_
  refine v_iload_n C eX12_slhVerify_175 rfl 1 rfl ?_
  refine n_callV (As := [.ref (ad 55), .int (nI 0), .int (howI hw)]) (rest := []) C I mX12_335 (rs_digestTree I hN hC2 h41 hnn h42 h43 h44 hh9 h45 ha14 h46 ht35 h47 h48 hht hth hdd hmm hm64 hw (l3 := l3) (l4 := l4) (by rw [bt_same (k2 2 (by decide))]; exact h3) (by rw [bt_same (k2 2 (by decide))]; exact h4) hl3 hl4 (kx := 55) (nx := 65536) rfl (by decide) (by decide) 0 (by omega) (by rw [bt_same (k2 55 (by decide))]; exact nrw_sub hn5 (by omega) (by omega)) (by rw [h37]; exact nrw_sub hn1 (by omega) (by omega))) (hN 49 (by decide)) hC2.obj rfl (by omega) (by decide) ⟨by decide, by decide⟩ rfl (vi_k (vi_c (rfl : (0 : Int32) = nI 0) (vi_k rfl))) (Nat.le_of_ble_eq_true rfl) eX12_slhVerify_176 (fun r σ3 hp => ?_)
  obtain ⟨rfl, hC3, hk3, hv3⟩ := hp
  obtain ⟨T, hTd⟩ : ∃ T, T = dtL θ sh nn mm (sl (bt σ 55) 0 nn) (sl (bt σ 51) 0 nn) (sl (bt σ 51) nn nn) (sgM hw (sl (bt σ 54) 0 l4) (sl (bt σ 53) 0 l3)) := ⟨_, rfl⟩
  have hTl : sl (bt σ3 35) 0 mm = T := by rw [hv3, sl_wr' (dtL_len (by omega)), h37, h40, bt_same (k2 55 (by decide)), bt_same (k2 54 (by decide)), bt_same (k2 53 (by decide)), hTd]
  have k3 : ∀ k, ¬ (13 ≤ k ∧ k ≤ 17 ∨ k = 49 ∨ k = 23 ∨ k = 25 ∨ k = 26 ∨ k = 35 ∨ k = 37 ∨ k = 40) → σ3 k = σ k := fun k hk => (hk3 k (by omega)).trans (k2 k (by omega))
  refine v_aload_n C eX12_slhVerify_179 rfl 0 rfl ?_
  refine n_callV (As := []) (rest := []) C I mX12_338 (rs_treeNumber I hN hC3 h41 h42 h44 h45 h46 hht hb1 (by omega) hTl hm64 (by omega)) (hN 49 (by decide)) hC3.obj rfl (by omega) (by decide) ⟨by decide, by decide⟩ rfl rfl (Nat.le_of_ble_eq_true rfl) eX12_slhVerify_180 (fun r ρ hp => ?_)
  obtain ⟨rfl, hρ⟩ := hp
  rw [hρ]
  clear hρ ρ
  refine v_lstore_n (lv' := [(0, .ref (ad 49)), (2, .int (howI hw)), (3, .long (tgT T tt aa th hh))]) C eX12_slhVerify_183 rfl (by decide) [1, 2, 0] rfl ?_
  refine v_aload_n C eX12_slhVerify_184 rfl 0 rfl ?_
  refine n_callV (As := []) (rest := []) C I mX12_342 (rs_pairNumber I hN hC3 h41 h42 h44 h45 h46 hht hb1 (by omega) hTl hm64 hh9.2 (by omega)) (hN 49 (by decide)) hC3.obj rfl (by omega) (by decide) ⟨by decide, by decide⟩ rfl rfl (Nat.le_of_ble_eq_true rfl) eX12_slhVerify_185 (fun r ρ hp => ?_)
  obtain ⟨rfl, hρ⟩ := hp
  rw [hρ]
  clear hρ ρ
  refine v_istore (lv' := [(0, .ref (ad 49)), (2, .int (howI hw)), (3, .long (tgT T tt aa th hh)), (5, .int (nI (tgI T tt aa th hh)))]) C eX12_slhVerify_188 (by decide) [1, 2, 3, 0] rfl ?_
  have hi0 := tgI_lt (T := T) (tt := tt) (aa := aa) (th := th) (hh := hh)
  refine v_aload_n C eX12_slhVerify_190 rfl 0 rfl ?_
  refine v_iconst (v := (0 : Int32)) C eX12_slhVerify_191 (by decide) ?_
  refine v_lload_n C eX12_slhVerify_192 rfl 2 rfl ?_
  refine n_callV (As := [.int (nI 0), .long (tgT T tt aa th hh)]) (rest := []) C I mX12_321 (rs_place I hN hC3 (nI 0) (tgT T tt aa th hh)) (hN 49 (by decide)) hC3.obj rfl (by omega) (by decide) ⟨by decide, by decide⟩ rfl (vi_k (vi_c (rfl : (0 : Int32) = nI 0) rfl)) (Nat.le_of_ble_eq_true rfl) eX12_slhVerify_193 (fun r σ4 hp => ?_)
  obtain ⟨rfl, hC4, hk4, hv4⟩ := hp
  have hR4 : RC G ad θ x sh nn (sl (bt σ 51) 0 nn) (hdL (nI 0) (tgT T tt aa th hh)) (sl (bt σ4 38) 0 nn) σ4 := ⟨hC4, ⟨h41, hnn, h48⟩, hv4, by rw [bt_same (hk4 37 (by decide)), bt_same (hk3 37 (by decide)), h37], rfl⟩
  have h55 : bt σ4 55 = bt σ 55 := by rw [bt_same (hk4 55 (by decide)), bt_same (k3 55 (by decide))]
  refine v_aload_n C eX12_slhVerify_196 rfl 0 rfl ?_
  refine v_iload C eX12_slhVerify_197 3 rfl ?_
  refine v_aload_n C eX12_slhVerify_199 rfl 0 rfl ?_
  refine n_get C I fX12_16_X12 eX12_slhVerify_200 (hN 49 (by decide)) hC4.obj rfl ?_
  refine v_iconst (v := (5 : Int32)) C eX12_slhVerify_203 (by decide) ?_
  refine n_aald (b := ad 55) C I eX12_slhVerify_204 (hN 1 (by decide)) hC4.slot 5 (rfl : (5 : Int32) = nI 5) (by omega) (by decide) (eRf_at (by omega)) ?_
  refine v_aload_n C eX12_slhVerify_205 rfl 0 rfl ?_
  refine n_get C I fX12_243_X12 eX12_slhVerify_206 (hN 49 (by decide)) hC4.obj rfl ?_
  refine n_callV (As := [.int (nI (tgI T tt aa th hh)), .ref (ad 55), .int (nI nn)]) (rest := []) C I mX12_348 (rc_rootOfForest I hN hR4 (T := T) (mT := mm) (by rw [bt_same (hk4 35 (by decide))]; exact hTl) hm64 h45 ha14 h46 ht35 (by omega) (kx := 55) (nx := 65536) rfl (by decide) (by decide) (tgI T tt aa th hh) nn (by omega) (by rw [h55]; exact nrw_sub hn5 (by omega) (by omega))) (hN 49 (by decide)) hC4.obj rfl (by omega) (by decide) ⟨by decide, by decide⟩ rfl (vi_c (hC4.i41.trans h41) (vi_k (vi_c (rfl : nI (tgI T tt aa th hh) = nI (tgI T tt aa th hh)) rfl))) (Nat.le_of_ble_eq_true rfl) eX12_slhVerify_209 (fun r σ5 hp => ?_)
  obtain ⟨rfl, hR5, hk5, hv5, hw5⟩ := hp
  have hC5 := hR5.s
  have hv5' : sl (bt σ5 33) 0 nn = rfL (fF θ sh nn (sl (bt σ 51) 0 nn) (hdL (nI 0) (tgT T tt aa th hh))) T aa tt nn (fun q => lsl (sl (bt σ 55) 0 L5) q nn) (tgI T tt aa th hh) nn := by rw [hv5, h55]; exact rfL_congr (fun q h1 h2 => sl_lsl (by omega))
  refine v_aload_n C eX12_slhVerify_212 rfl 0 rfl ?_
  refine n_get C I fX12_243_X12 eX12_slhVerify_213 (hN 49 (by decide)) hC5.obj rfl ?_
  refine v_aload_n C eX12_slhVerify_216 rfl 0 rfl ?_
  refine n_get C I fX12_255_X12 eX12_slhVerify_217 (hN 49 (by decide)) hC5.obj rfl ?_
  refine v_iconst (v := (1 : Int32)) C eX12_slhVerify_220 (by decide) ?_
  refine v_aload_n C eX12_slhVerify_221 rfl 0 rfl ?_
  refine n_get C I fX12_252_X12 eX12_slhVerify_222 (hN 49 (by decide)) hC5.obj rfl ?_
  refine v_iadd C eX12_slhVerify_225 ?_
  refine v_imul C eX12_slhVerify_226 ?_
  refine v_aload_n C eX12_slhVerify_227 rfl 0 rfl ?_
  refine n_get C I fX12_243_X12 eX12_slhVerify_228 (hN 49 (by decide)) hC5.obj rfl ?_
  refine v_imul C eX12_slhVerify_231 ?_
  refine v_iadd C eX12_slhVerify_232 ?_
  refine v_natT (show ((ox σ5) 41) + ((((ox σ5) 46) * (((1 : Int32)) + ((ox σ5) 45))) * ((ox σ5) 41)) = nI ((nn + tt * ((1 + aa) * nn)) + 0 * ((2 * nn + 3 + hh) * nn)) from ((ix_add (a := nn) (b := (tt * (1 + aa)) * nn) (hC5.i41.trans h41) (ix_mul (a := tt * (1 + aa)) (b := nn) (ix_mul (a := tt) (b := 1 + aa) (hC5.i46.trans h46) (ix_add (a := 1) (b := aa) (rfl : (1 : Int32) = nI 1) (hC5.i45.trans h45))) (hC5.i41.trans h41)))).trans (congrArg nI (by rw [htM, Nat.zero_mul]; rfl))) ?_
  refine v_istore (lv' := [(0, .ref (ad 49)), (2, .int (howI hw)), (3, .long (tgT T tt aa th hh)), (5, .int (nI (tgI T tt aa th hh))), (6, .int (nI ((nn + tt * ((1 + aa) * nn)) + 0 * ((2 * nn + 3 + hh) * nn))))]) C eX12_slhVerify_233 (by decide) [1, 2, 3, 4, 0] rfl ?_
  refine v_iconst (v := nI 0) C eX12_slhVerify_235 (by decide) ?_
  refine v_istore (lv' := [(0, .ref (ad 49)), (2, .int (howI hw)), (3, .long (tgT T tt aa th hh)), (5, .int (nI (tgI T tt aa th hh))), (6, .int (nI ((nn + tt * ((1 + aa) * nn)) + 0 * ((2 * nn + 3 + hh) * nn)))), (7, .int (nI 0))]) C eX12_slhVerify_236 (by decide) [1, 2, 3, 4, 5, 0] rfl ?_
  refine v_forP (fun j τ => RS G ad θ x τ ∧ (∀ k, ¬ (13 ≤ k ∧ k ≤ 17 ∨ k = 49 ∨ k = 23 ∨ k = 25 ∨ k = 26 ∨ k = 28 ∨ k = 30 ∨ k = 31 ∨ k = 33 ∨ k = 34 ∨ k = 35 ∨ k = 36 ∨ k = 37 ∨ k = 39 ∨ k = 40) → τ k = σ k) ∧ (τ 37 = σ2 37 ∧ τ 40 = σ2 40) ∧ sl (bt τ 33) 0 nn = vyW θ sh nn hh (sl (bt σ 51) 0 nn) (tgT T tt aa th hh) (tgI T tt aa th hh) (sl (bt σ 55) 0 L5) (nn + tt * ((1 + aa) * nn)) (rfL (fF θ sh nn (sl (bt σ 51) 0 nn) (hdL (nI 0) (tgT T tt aa th hh))) T aa tt nn (fun q => lsl (sl (bt σ 55) 0 L5) q nn) (tgI T tt aa th hh) nn) j ∧ nrw (sl (bt τ 33) 0 nn)) (fun j => [(0, .ref (ad 49)), (2, .int (howI hw)), (3, .long (lyT hh (tgT T tt aa th hh) j)), (5, .int (nI (lyI hh (tgT T tt aa th hh) (tgI T tt aa th hh) j))), (6, .int (nI ((nn + tt * ((1 + aa) * nn)) + j * ((2 * nn + 3 + hh) * nn)))), (7, .int (nI j))]) dd ?_ ?_ _ ⟨hC5, fun k hk => (hk5 k (by omega)).trans ((hk4 k (by omega)).trans (k3 k (by omega))), ⟨(hk5 37 (by omega)).trans ((hk4 37 (by omega)).trans (hk3 37 (by omega))), (hk5 40 (by omega)).trans ((hk4 40 (by omega)).trans (hk3 40 (by omega)))⟩, hv5', hw5⟩
  · intro τ hI
    obtain ⟨hC6, hk6, ⟨h6a, h6b⟩, hv6, hw6⟩ := hI
    refine v_iload C eX12_slhVerify_238 5 rfl ?_
    refine v_aload_n C eX12_slhVerify_240 rfl 0 rfl ?_
    refine n_get C I fX12_249_X12 eX12_slhVerify_241 (hN 49 (by decide)) hC6.obj rfl ?_
    refine v_icmp_ge (tgt := 335) C eX12_slhVerify_244 (by decide) (fun _ => ?_) (fun h => absurd (ix_le (a := dd) (b := dd) (hC6.i43.trans h43) (rfl : nI dd = nI dd) (by omega) (by omega) (by omega)) h)
    refine v_aload_n C eX12_slhVerify_335 rfl 0 rfl ?_
    refine n_get C I fX12_96_X12 eX12_slhVerify_336 (hN 49 (by decide)) hC6.obj rfl ?_
    refine v_iconst (v := (0 : Int32)) C eX12_slhVerify_339 (by decide) ?_
    refine v_aload_n C eX12_slhVerify_340 rfl 0 rfl ?_
    refine n_get C I fX12_16_X12 eX12_slhVerify_341 (hN 49 (by decide)) hC6.obj rfl ?_
    refine v_bipush (v := (6 : Int32)) C eX12_slhVerify_344 (by decide) ?_
    refine n_aald (b := ad 56) C I eX12_slhVerify_346 (hN 1 (by decide)) hC6.slot 6 (rfl : (6 : Int32) = nI 6) (by omega) (by decide) (eRf_at (by omega)) ?_
    refine v_iconst (v := (0 : Int32)) C eX12_slhVerify_347 (by decide) ?_
    refine v_aload_n C eX12_slhVerify_348 rfl 0 rfl ?_
    refine n_get C I fX12_243_X12 eX12_slhVerify_349 (hN 49 (by decide)) hC6.obj rfl ?_
    refine n_callS (av := [.ref (ad 33), .int (nI 0), .ref (ad 56), .int (nI 0), .int (nI nn)]) (rest := []) C mX12_239 (rs_mv I hN hC6 (kx := 33) (nx := 64) (ko := 56) (no := 65536) rfl (by decide) rfl (by decide) (by decide) 0 0 nn (by omega) (by omega) hw6) rfl (by omega) (by decide) ⟨by decide, by decide⟩ rfl (vi_c (hC6.i41.trans h41) (vi_c (rfl : (0 : Int32) = nI 0) (vi_k (vi_c (rfl : (0 : Int32) = nI 0) (vi_k rfl))))) (Nat.le_of_ble_eq_true rfl) eX12_slhVerify_352 (fun r σ7 hp => ?_)
    obtain ⟨rfl, hC7, hk7, hv7⟩ := hp
    refine v_aload_n C eX12_slhVerify_355 rfl 0 rfl ?_
    refine n_get C I fX12_19_X12 eX12_slhVerify_356 (hN 49 (by decide)) hC7.obj rfl ?_
    refine v_bipush (v := (6 : Int32)) C eX12_slhVerify_359 (by decide) ?_
    refine v_aload_n C eX12_slhVerify_361 rfl 0 rfl ?_
    refine n_get C I fX12_243_X12 eX12_slhVerify_362 (hN 49 (by decide)) hC7.obj rfl ?_
    refine v_natT (show (ox σ7) 41 = nI nn from (hC7.i41.trans h41)) ?_
    refine n_iast C I eX12_slhVerify_365 (hN 2 (by decide)) hC7.len 6 (rfl : (6 : Int32) = nI 6) (by omega) (by decide) ?_
    refine v_pic (fun σ8 hσ8 => ?_)
    have hC8 : RS G ad θ x σ8 := by rw [hσ8]; exact hC7.upI (Or.inl ⟨rfl, rfl⟩) _
    have hk8 : ∀ k, ¬ (k = 2) → σ8 k = σ7 k := fun k hk => by rw [hσ8]; exact n_ne hk
    have hv8 : bt σ8 2 = upd (bt σ7 2) 6 (nI nn) := by rw [hσ8]; exact bt_I (G := G) (n := 8) (n_self (σ := σ7))
    refine v_aload_n C eX12_slhVerify_366 rfl 0 rfl ?_
    refine n_get C I fX12_96_X12 eX12_slhVerify_367 (hN 49 (by decide)) hC8.obj rfl ?_
    refine v_iconst (v := (0 : Int32)) C eX12_slhVerify_370 (by decide) ?_
    refine v_aload_n C eX12_slhVerify_371 rfl 0 rfl ?_
    refine n_get C I fX12_117_X12 eX12_slhVerify_372 (hN 49 (by decide)) hC8.obj rfl ?_
    refine v_iconst (v := (0 : Int32)) C eX12_slhVerify_375 (by decide) ?_
    refine v_aload_n C eX12_slhVerify_376 rfl 0 rfl ?_
    refine n_get C I fX12_243_X12 eX12_slhVerify_377 (hN 49 (by decide)) hC8.obj rfl ?_
    refine n_callS (av := [.ref (ad 33), .int (nI 0), .ref (ad 40), .int (nI 0), .int (nI nn)]) (rest := []) C mX12_358 (rs_alike I hN hC8 (kx := 33) (nx := 64) (ky := 40) (ny := 32) rfl (by decide) rfl (by decide) 0 0 nn (by omega) (by omega)) rfl (by omega) (by decide) ⟨by decide, by decide⟩ rfl (vi_c (hC8.i41.trans h41) (vi_c (rfl : (0 : Int32) = nI 0) (vi_k (vi_c (rfl : (0 : Int32) = nI 0) (vi_k rfl))))) (Nat.le_of_ble_eq_true rfl) eX12_slhVerify_380 (fun r ρ hp => ?_)
    obtain ⟨rfl, hρ⟩ := hp
    rw [hρ]
    have h33 : sl (bt σ8 33) 0 nn = vyW θ sh nn hh (sl (bt σ 51) 0 nn) (tgT T tt aa th hh) (tgI T tt aa th hh) (sl (bt σ 55) 0 L5) (nn + tt * ((1 + aa) * nn)) (rfL (fF θ sh nn (sl (bt σ 51) 0 nn) (hdL (nI 0) (tgT T tt aa th hh))) T aa tt nn (fun q => lsl (sl (bt σ 55) 0 L5) q nn) (tgI T tt aa th hh) nn) dd := by rw [bt_same (hk8 33 (by decide)), bt_same (hk7 33 (by decide)), hv6]
    have h40b : sl (bt σ8 40) 0 nn = sl (bt σ 51) nn nn := by rw [bt_same (hk8 40 (by decide)), bt_same (hk7 40 (by decide)), bt_same h6b, h40]
    refine n_zret C rfl (by unfold alk; split <;> rfl) eX12_slhVerify_383 (hPost _ _ ⟨?_, hC8, fun k hk => (hk8 k (by omega)).trans ((hk7 k (by omega)).trans (hk6 k (by omega))), ?_, ?_⟩)
    · unfold alk; rw [h33, h40b, hTd]; rfl
    · rw [hv8, bt_same (hk7 2 (by decide)), bt_same (hk6 2 (by omega))]
    · rw [bt_same (hk8 56 (by decide)), hv7, sl_wr' sl_len, hv6, hTd]; rfl
  · intro j hj ih τ hI
    obtain ⟨hC6, hk6, ⟨h6a, h6b⟩, hv6, hw6⟩ := hI
    refine v_iload C eX12_slhVerify_238 5 rfl ?_
    refine v_aload_n C eX12_slhVerify_240 rfl 0 rfl ?_
    refine n_get C I fX12_249_X12 eX12_slhVerify_241 (hN 49 (by decide)) hC6.obj rfl ?_
    refine v_icmp_ge (tgt := 335) C eX12_slhVerify_244 (by decide) (fun h => absurd h (ix_nle (a := dd) (b := j) (hC6.i43.trans h43) (rfl : nI j = nI j) (by omega) (by omega) (by omega))) (fun _ => ?_)
    refine v_aload_n C eX12_slhVerify_247 rfl 0 rfl ?_
    refine v_iload C eX12_slhVerify_248 5 rfl ?_
    refine v_lload_n C eX12_slhVerify_250 rfl 2 rfl ?_
    have hjM : j * ((2 * nn + 3 + hh) * nn) + ((2 * nn + 3 + hh) * nn) ≤ dd * ((2 * nn + 3 + hh) * nn) := by rw [← Nat.succ_mul]; exact Nat.mul_le_mul_right _ hj
    have hij := lyI_lt (tr := (tgT T tt aa th hh)) hi0 j
    refine n_callV (As := [.int (nI j), .long (lyT hh (tgT T tt aa th hh) j)]) (rest := []) C I mX12_321 (rs_place I hN hC6 (nI j) (lyT hh (tgT T tt aa th hh) j)) (hN 49 (by decide)) hC6.obj rfl (by omega) (by decide) ⟨by decide, by decide⟩ rfl (vi_k (vi_c (rfl : nI j = nI j) rfl)) (Nat.le_of_ble_eq_true rfl) eX12_slhVerify_251 (fun r σ7 hp => ?_)
    obtain ⟨rfl, hC7, hk7, hv7⟩ := hp
    refine v_aload_n C eX12_slhVerify_254 rfl 0 rfl ?_
    refine n_get C I fX12_96_X12 eX12_slhVerify_255 (hN 49 (by decide)) hC7.obj rfl ?_
    refine v_iconst (v := (0 : Int32)) C eX12_slhVerify_258 (by decide) ?_
    refine v_aload_n C eX12_slhVerify_259 rfl 0 rfl ?_
    refine n_get C I fX12_114_X12 eX12_slhVerify_260 (hN 49 (by decide)) hC7.obj rfl ?_
    refine v_iconst (v := (0 : Int32)) C eX12_slhVerify_263 (by decide) ?_
    refine v_aload_n C eX12_slhVerify_264 rfl 0 rfl ?_
    refine n_get C I fX12_243_X12 eX12_slhVerify_265 (hN 49 (by decide)) hC7.obj rfl ?_
    refine n_callS (av := [.ref (ad 33), .int (nI 0), .ref (ad 39), .int (nI 0), .int (nI nn)]) (rest := []) C mX12_239 (rs_mv I hN hC7 (kx := 33) (nx := 64) (ko := 39) (no := 32) rfl (by decide) rfl (by decide) (by decide) 0 0 nn (by omega) (by omega) (by rw [bt_same (hk7 33 (by decide))]; exact hw6)) rfl (by omega) (by decide) ⟨by decide, by decide⟩ rfl (vi_c (hC7.i41.trans h41) (vi_c (rfl : (0 : Int32) = nI 0) (vi_k (vi_c (rfl : (0 : Int32) = nI 0) (vi_k rfl))))) (Nat.le_of_ble_eq_true rfl) eX12_slhVerify_268 (fun r σ8 hp => ?_)
    obtain ⟨rfl, hC8, hk8, hv8⟩ := hp
    have hR8 : RC G ad θ x sh nn (sl (bt σ 51) 0 nn) (hdL (nI j) (lyT hh (tgT T tt aa th hh) j)) (sl (bt σ8 38) 0 nn) σ8 := ⟨hC8, ⟨h41, hnn, h48⟩, by rw [bt_same (hk8 28 (by decide))]; exact hv7, by rw [bt_same (hk8 37 (by decide)), bt_same (hk7 37 (by decide)), bt_same h6a]; exact h37, rfl⟩
    have h55b : bt σ8 55 = bt σ 55 := by rw [bt_same (hk8 55 (by decide)), bt_same (hk7 55 (by decide)), bt_same (hk6 55 (by decide))]
    have h39 : sl (bt σ8 39) 0 nn = vyW θ sh nn hh (sl (bt σ 51) 0 nn) (tgT T tt aa th hh) (tgI T tt aa th hh) (sl (bt σ 55) 0 L5) (nn + tt * ((1 + aa) * nn)) (rfL (fF θ sh nn (sl (bt σ 51) 0 nn) (hdL (nI 0) (tgT T tt aa th hh))) T aa tt nn (fun q => lsl (sl (bt σ 55) 0 L5) q nn) (tgI T tt aa th hh) nn) j := by rw [hv8, sl_wr' sl_len, bt_same (hk7 33 (by decide)), hv6]
    refine v_aload_n C eX12_slhVerify_271 rfl 0 rfl ?_
    refine v_iload C eX12_slhVerify_272 3 rfl ?_
    refine v_aload_n C eX12_slhVerify_274 rfl 0 rfl ?_
    refine n_get C I fX12_16_X12 eX12_slhVerify_275 (hN 49 (by decide)) hC8.obj rfl ?_
    refine v_iconst (v := (5 : Int32)) C eX12_slhVerify_278 (by decide) ?_
    refine n_aald (b := ad 55) C I eX12_slhVerify_279 (hN 1 (by decide)) hC8.slot 5 (rfl : (5 : Int32) = nI 5) (by omega) (by decide) (eRf_at (by omega)) ?_
    refine v_iload C eX12_slhVerify_280 4 rfl ?_
    refine v_aload_n C eX12_slhVerify_282 rfl 0 rfl ?_
    refine n_get C I fX12_114_X12 eX12_slhVerify_283 (hN 49 (by decide)) hC8.obj rfl ?_
    refine v_iconst (v := (0 : Int32)) C eX12_slhVerify_286 (by decide) ?_
    refine n_callV (As := [.int (nI (lyI hh (tgT T tt aa th hh) (tgI T tt aa th hh) j)), .ref (ad 55), .int (nI ((nn + tt * ((1 + aa) * nn)) + j * ((2 * nn + 3 + hh) * nn))), .ref (ad 39), .int (nI 0)]) (rest := []) C I mX12_354 (rc_rootOf I hN hR8 h47 h44 hh9.2 (kx := 55) (nx := 65536) rfl (by decide) (ky := 39) (ny := 32) rfl (by decide) (by decide) (lyI hh (tgT T tt aa th hh) (tgI T tt aa th hh) j) ((nn + tt * ((1 + aa) * nn)) + j * ((2 * nn + 3 + hh) * nn)) 0 hij (by omega) (by omega) (by rw [h55b]; exact nrw_sub hn5 (by omega) (by omega))) (hN 49 (by decide)) hC8.obj rfl (by omega) (by decide) ⟨by decide, by decide⟩ rfl (vi_c (rfl : (0 : Int32) = nI 0) (vi_k (vi_c (rfl : nI ((nn + tt * ((1 + aa) * nn)) + j * ((2 * nn + 3 + hh) * nn)) = nI ((nn + tt * ((1 + aa) * nn)) + j * ((2 * nn + 3 + hh) * nn))) (vi_k (vi_c (rfl : nI (lyI hh (tgT T tt aa th hh) (tgI T tt aa th hh) j) = nI (lyI hh (tgT T tt aa th hh) (tgI T tt aa th hh) j)) rfl))))) (Nat.le_of_ble_eq_true rfl) eX12_slhVerify_287 (fun r σ9 hp => ?_)
    obtain ⟨rfl, hR9, hk9, hv9, hw9⟩ := hp
    have hC9 := hR9.s
    refine v_iload C eX12_slhVerify_290 4 rfl ?_
    refine v_aload_n C eX12_slhVerify_292 rfl 0 rfl ?_
    refine n_get C I fX12_261_X12 eX12_slhVerify_293 (hN 49 (by decide)) hC9.obj rfl ?_
    refine v_aload_n C eX12_slhVerify_296 rfl 0 rfl ?_
    refine n_get C I fX12_258_X12 eX12_slhVerify_297 (hN 49 (by decide)) hC9.obj rfl ?_
    refine v_iadd C eX12_slhVerify_300 ?_
    refine v_aload_n C eX12_slhVerify_301 rfl 0 rfl ?_
    refine n_get C I fX12_243_X12 eX12_slhVerify_302 (hN 49 (by decide)) hC9.obj rfl ?_
    refine v_imul C eX12_slhVerify_305 ?_
    refine v_iadd C eX12_slhVerify_306 ?_
    refine v_natT (show (nI ((nn + tt * ((1 + aa) * nn)) + j * ((2 * nn + 3 + hh) * nn))) + ((((ox σ9) 47) + ((ox σ9) 44)) * ((ox σ9) 41)) = nI ((nn + tt * ((1 + aa) * nn)) + (j + 1) * ((2 * nn + 3 + hh) * nn)) from ((ix_add (a := (nn + tt * ((1 + aa) * nn)) + j * ((2 * nn + 3 + hh) * nn)) (b := ((2 * nn + 3) + hh) * nn) (rfl : nI ((nn + tt * ((1 + aa) * nn)) + j * ((2 * nn + 3 + hh) * nn)) = nI ((nn + tt * ((1 + aa) * nn)) + j * ((2 * nn + 3 + hh) * nn))) (ix_mul (a := (2 * nn + 3) + hh) (b := nn) (ix_add (a := 2 * nn + 3) (b := hh) (hC9.i47.trans h47) (hC9.i44.trans h44)) (hC9.i41.trans h41)))).trans (congrArg nI (by rw [Nat.succ_mul j]; omega))) ?_
    refine v_istore (lv' := [(0, .ref (ad 49)), (2, .int (howI hw)), (3, .long (lyT hh (tgT T tt aa th hh) j)), (5, .int (nI (lyI hh (tgT T tt aa th hh) (tgI T tt aa th hh) j))), (6, .int (nI ((nn + tt * ((1 + aa) * nn)) + (j + 1) * ((2 * nn + 3 + hh) * nn)))), (7, .int (nI j))]) C eX12_slhVerify_307 (by decide) [1, 2, 3, 4, 0, 5] rfl ?_
    refine v_lload_n C eX12_slhVerify_309 rfl 2 rfl ?_
    refine v_lconst (v := (1 : Int64)) C eX12_slhVerify_310 (by decide) ?_
    refine v_aload_n C eX12_slhVerify_311 rfl 0 rfl ?_
    refine n_get C I fX12_258_X12 eX12_slhVerify_312 (hN 49 (by decide)) hC9.obj rfl ?_
    refine v_natT (show (ox σ9) 44 = nI hh from (hC9.i44.trans h44)) ?_
    refine v_lshl C eX12_slhVerify_315 ?_
    refine v_lconst (v := (1 : Int64)) C eX12_slhVerify_316 (by decide) ?_
    refine v_lsub C eX12_slhVerify_317 ?_
    refine v_land C eX12_slhVerify_318 ?_
    refine v_l2i C eX12_slhVerify_319 ?_
    refine v_natT (show ((lyT hh (tgT T tt aa th hh) j) &&& ((((1 : Int64)) <<< ((nI hh).toInt64 &&& 63)) - ((1 : Int64)))).toInt32 = nI (lyI hh (tgT T tt aa th hh) (tgI T tt aa th hh) (j + 1)) from prI_eq hh9.2) ?_
    refine v_istore (lv' := [(0, .ref (ad 49)), (2, .int (howI hw)), (3, .long (lyT hh (tgT T tt aa th hh) j)), (5, .int (nI (lyI hh (tgT T tt aa th hh) (tgI T tt aa th hh) (j + 1)))), (6, .int (nI ((nn + tt * ((1 + aa) * nn)) + (j + 1) * ((2 * nn + 3 + hh) * nn)))), (7, .int (nI j))]) C eX12_slhVerify_320 (by decide) [1, 2, 3, 0, 4, 5] rfl ?_
    refine v_lload_n C eX12_slhVerify_322 rfl 2 rfl ?_
    refine v_aload_n C eX12_slhVerify_323 rfl 0 rfl ?_
    refine n_get C I fX12_258_X12 eX12_slhVerify_324 (hN 49 (by decide)) hC9.obj rfl ?_
    refine v_natT (show (ox σ9) 44 = nI hh from (hC9.i44.trans h44)) ?_
    refine v_lushr C eX12_slhVerify_327 ?_
    refine v_lstore_n (lv' := [(0, .ref (ad 49)), (2, .int (howI hw)), (3, .long (lyT hh (tgT T tt aa th hh) (j + 1))), (5, .int (nI (lyI hh (tgT T tt aa th hh) (tgI T tt aa th hh) (j + 1)))), (6, .int (nI ((nn + tt * ((1 + aa) * nn)) + (j + 1) * ((2 * nn + 3 + hh) * nn)))), (7, .int (nI j))]) C eX12_slhVerify_328 rfl (by decide) [1, 2, 0, 3, 4, 5] rfl ?_
    refine v_iinc (lv' := [(0, .ref (ad 49)), (2, .int (howI hw)), (3, .long (lyT hh (tgT T tt aa th hh) (j + 1))), (5, .int (nI (lyI hh (tgT T tt aa th hh) (tgI T tt aa th hh) (j + 1)))), (6, .int (nI ((nn + tt * ((1 + aa) * nn)) + (j + 1) * ((2 * nn + 3 + hh) * nn)))), (7, .int (nI (j + 1)))]) C eX12_slhVerify_329 5 rfl (ix_inc _) (by decide) [1, 2, 3, 4, 5, 0] rfl ?_
    refine v_goto (tgt := 238) C eX12_slhVerify_332 (by decide) ?_
    refine ih σ9 ⟨hC9, fun k hk => (hk9 k (by omega)).trans ((hk8 k (by omega)).trans ((hk7 k (by omega)).trans (hk6 k hk))), ⟨(hk9 37 (by omega)).trans ((hk8 37 (by omega)).trans ((hk7 37 (by omega)).trans h6a)), (hk9 40 (by omega)).trans ((hk8 40 (by omega)).trans ((hk7 40 (by omega)).trans h6b))⟩, ?_, hw9⟩
    rw [hv9, h39, h55b]
    refine rtL_congr (fun q hq => ?_)
    have hqn : q * nn + nn ≤ (2 * nn + 3 + hh) * nn := by rw [← Nat.succ_mul]; exact Nat.mul_le_mul_right _ hq
    exact sl_lsl (by omega)

end M28
