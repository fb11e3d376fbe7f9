def alk (f : Nat → Int32) (i : Nat) (g : Nat → Int32) (j n : Nat) : Int32 := if sl f i n = sl g j n then 1 else 0
theorem alk_s {f g : Nat → Int32} {i j n : Nat} : alk f i g j (n + 1) = if f (i + n) = g (j + n) then alk f i g j n else 0 := by
  unfold alk
  rw [sl_s, sl_s]
  by_cases h : f (i + n) = g (j + n)
  · rw [if_pos h, h]
    by_cases q : sl f i n = sl g j n
    · rw [if_pos q, q, if_pos rfl]
    · rw [if_neg q, if_neg (fun e => q (List.append_inj_left' e rfl))]
  · rw [if_neg h, if_neg (fun e => h (by have := List.append_inj_right' e rfl; simpa using this))]
section M27
variable {G : vG} {B : Nat} {l : Launch} {ad : Nat → Nat} {N : Nat} {θ : tT} {x : Nat → Int32} {σ : nS} {sh : Bool} {nn : Nat} {P H K : List Int32}
set_option maxRecDepth 100000 in
set_option maxHeartbeats 4000000 in
theorem rs_alike (I : nI1 ad N) (hN : ∀ k, k < 74 → k < N) (hC : RS G ad θ x σ) {kx nx : Nat} (hkx : rLn kx = nx) (hx0 : 0 < nx) {ky ny : Nat} (hky : rLn ky = ny) (hy0 : 0 < ny) (i j n : Nat) (hi : i + n ≤ nx) (hj : j + n ≤ ny) : nOk G B l ad N yX12_alike cX12_alike 7 (some .boolean) 0 0 0 [.ref (ad kx), .int (nI i), .ref (ad ky), .int (nI j), .int (nI n)] σ (fun r σ' => r = some (.int (alk (bt σ kx) i (bt σ ky) j n)) ∧ σ' = σ) := by
  refine vOk.of (by decide +kernel) (Nat.le_of_ble_eq_true rfl) ?_
  intro p e s m args below meth c C
  refine v_eq (lv' := [(0, .ref (ad kx)), (1, .int (nI i)), (2, .ref (ad ky)), (3, .int (nI j)), (4, .int (nI n))]) rfl rfl rfl ?_
  have hx31 : nx < 2 ^ 31 := hkx ▸ rLn_31 (k := kx) (by omega)
  have hy31 : ny < 2 ^ 31 := hky ▸ rLn_31 (k := ky) (by omega)
  have h0 : (1 : Int32) = alk (bt σ kx) i (bt σ ky) j 0 := rfl
  refine v_iconst (v := (1 : Int32)) C eX12_alike_0 (by decide) ?_
  rw [h0]
  refine v_istore (lv' := [(0, .ref (ad kx)), (1, .int (nI i)), (2, .ref (ad ky)), (3, .int (nI j)), (4, .int (nI n)), (5, .int (alk (bt σ kx) i (bt σ ky) j 0))]) C eX12_alike_1 (by decide) [1, 2, 3, 4, 5, 0] rfl ?_
  refine v_iconst (v := nI 0) C eX12_alike_3 (by decide) ?_
  refine v_istore (lv' := [(0, .ref (ad kx)), (1, .int (nI i)), (2, .ref (ad ky)), (3, .int (nI j)), (4, .int (nI n)), (5, .int (alk (bt σ kx) i (bt σ ky) j 0)), (6, .int (nI 0))]) C eX12_alike_4 (by decide) [1, 2, 3, 4, 5, 6, 0] rfl ?_
  refine v_forP (fun q τ => τ = σ) (fun q => [(0, .ref (ad kx)), (1, .int (nI i)), (2, .ref (ad ky)), (3, .int (nI j)), (4, .int (nI n)), (5, .int (alk (bt σ kx) i (bt σ ky) j q)), (6, .int (nI q))]) n ?_ ?_ _ rfl
  · intro τ hI
    rw [hI]
    refine v_iload C eX12_alike_6 6 rfl ?_
    refine v_iload C eX12_alike_8 4 rfl ?_
    refine v_icmp_ge (tgt := 37) C eX12_alike_10 (by decide) (fun _ => ?_) (fun h => absurd (ix_le (a := n) (b := n) (rfl : nI n = nI n) (rfl : nI n = nI n) (by omega) (by omega) (by omega)) h)
    refine v_iload C eX12_alike_37 5 rfl ?_
    exact n_zret C rfl (by unfold alk; split <;> rfl) eX12_alike_39 ⟨rfl, rfl⟩
  · intro q hq ih τ hI
    rw [hI]
    dsimp only at ih
    refine v_iload C eX12_alike_6 6 rfl ?_
    refine v_iload C eX12_alike_8 4 rfl ?_
    refine v_icmp_ge (tgt := 37) C eX12_alike_10 (by decide) (fun h => absurd h (ix_nle (a := n) (b := q) (rfl : nI n = nI n) (rfl : nI q = nI q) (by omega) (by omega) (by omega))) (fun _ => ?_)
    refine v_aload_n C eX12_alike_13 rfl 0 rfl ?_
    refine v_iload_n C eX12_alike_14 rfl 1 rfl ?_
    refine v_iload C eX12_alike_15 6 rfl ?_
    refine v_iadd C eX12_alike_17 ?_
    refine n_bald C I eX12_alike_18 (hN kx (rLn_74 (Nat.lt_of_lt_of_eq hx0 hkx.symm))) (hC.b kx nx hkx hx0) (i + q) (ix_add (a := i) (b := q) (rfl : nI i = nI i) (rfl : nI q = nI q)) (by omega) (by omega) ?_
    refine v_aload_n C eX12_alike_19 rfl 2 rfl ?_
    refine v_iload_n C eX12_alike_20 rfl 3 rfl ?_
    refine v_iload C eX12_alike_21 6 rfl ?_
    refine v_iadd C eX12_alike_23 ?_
    refine n_bald C I eX12_alike_24 (hN ky (rLn_74 (Nat.lt_of_lt_of_eq hy0 hky.symm))) (hC.b ky ny hky hy0) (j + q) (ix_add (a := j) (b := q) (rfl : nI j = nI j) (rfl : nI q = nI q)) (by omega) (by omega) ?_
    refine v_icmp_eq (tgt := 31) C eX12_alike_25 (by decide) (fun c1 => ?_) (fun c1 => ?_)
    · rw [show alk (bt σ kx) i (bt σ ky) j (q + 1) = alk (bt σ kx) i (bt σ ky) j q from by rw [alk_s, if_pos c1]] at ih
      refine v_iinc (lv' := [(0, .ref (ad kx)), (1, .int (nI i)), (2, .ref (ad ky)), (3, .int (nI j)), (4, .int (nI n)), (5, .int (alk (bt σ kx) i (bt σ ky) j q)), (6, .int (nI (q + 1)))]) C eX12_alike_31 6 rfl (ix_inc _) (by decide) [1, 2, 3, 4, 5, 6, 0] rfl ?_
      refine v_goto (tgt := 6) C eX12_alike_34 (by decide) ?_
      exact ih _ rfl
    · rw [show alk (bt σ kx) i (bt σ ky) j (q + 1) = 0 from by rw [alk_s, if_neg c1]] at ih
      refine v_iconst (v := (0 : Int32)) C eX12_alike_28 (by decide) ?_
      refine v_istore (lv' := [(0, .ref (ad kx)), (1, .int (nI i)), (2, .ref (ad ky)), (3, .int (nI j)), (4, .int (nI n)), (5, .int ((0 : Int32))), (6, .int (nI q))]) C eX12_alike_29 (by decide) [1, 2, 3, 4, 5, 0, 6] rfl ?_
      refine v_iinc (lv' := [(0, .ref (ad kx)), (1, .int (nI i)), (2, .ref (ad ky)), (3, .int (nI j)), (4, .int (nI n)), (5, .int ((0 : Int32))), (6, .int (nI (q + 1)))]) C eX12_alike_31 6 rfl (ix_inc _) (by decide) [1, 2, 3, 4, 5, 6, 0] rfl ?_
      refine v_goto (tgt := 6) C eX12_alike_34 (by decide) ?_
      exact ih _ rfl

theorem nrw_nodeL {c : Nat} : ∀ z i, nrw (nodeL (fF θ sh nn P H) K c z i)
  | 0, _ => nrw_fF _ _ _ _ _
  | _ + 1, _ => nrw_fF _ _ _ _ _
set_option maxRecDepth 100000 in
set_option maxHeartbeats 4000000 in
theorem rs_keysB (I : nI1 ad N) (hN : ∀ k, k < 74 → k < N) {p : Program} {e : Env} {R : Room} {s : State} {m : MethodId} {args : Array Value} {below : List Frame} {meth : Method} {c : Code}  (C : vC G B p m meth c cX12_slhKeys 2 (some .int) s args yX12_slhKeys.cls) (hC : RS G ad θ x σ) {hh : Nat} (h41 : x 41 = nI nn) (hnn : nn = 16 ∨ nn = 24 ∨ nn = 32) (h44 : x 44 = nI hh) (hh9 : hh ≤ 9) (h47 : x 47 = nI (2 * nn + 3)) (h48 : x 48 = if sh then 1 else 0) {dd : Nat} (h43 : x 43 = nI dd) (hdd : 1 ≤ dd) (hn0 : nrw (sl (bt σ 50) 0 (3 * nn))) {d1 : Nat} (hR : R = vRm d1 0 0) (hd1 : 40 ≤ d1) {Post : Option Value → nS → Prop} (hPost : ∀ r σ', r = some (.int (nI (4 * nn))) ∧ RS G ad θ x σ' ∧ (∀ k, ¬ (13 ≤ k ∧ k ≤ 17 ∨ k = 49 ∨ k = 2 ∨ k = 28 ∨ k = 30 ∨ k = 37 ∨ k = 38 ∨ k = 40 ∨ k = 51 ∨ k = 52 ∨ (58 < k ∧ k < 74)) → σ' k = σ k) ∧ bt σ' 2 = upd (upd (bt σ 2) 1 (nI (2 * nn))) 2 (nI (4 * nn)) ∧ sl (bt σ' 51) 0 (2 * nn) = sl (bt σ 50) (2 * nn) nn ++ nodeL (fF θ sh nn (sl (bt σ 50) (2 * nn) nn) (hdL (nI (dd - 1)) 0)) (sl (bt σ 50) 0 nn) (2 * nn + 3) hh 0 ∧ sl (bt σ' 52) 0 (4 * nn) = sl (bt σ 50) 0 (3 * nn) ++ nodeL (fF θ sh nn (sl (bt σ 50) (2 * nn) nn) (hdL (nI (dd - 1)) 0)) (sl (bt σ 50) 0 nn) (2 * nn + 3) hh 0 → Post r σ') : V G B p l e R s m args below meth c 2 0 0 (MQ below (vQ G B (fun r w' => ∃ σ' : nS, w' = nW ad N σ' ∧ Post r σ')) args s 0 0 (fun q => B ≤ q)) (nW ad N σ) 52 [(0, .ref (ad 49))] [] := by
  subst hR
  refine v_aload_n C eX12_slhKeys_52 rfl 0 rfl ?_
  refine n_get C I fX12_16_X12 eX12_slhKeys_53 (hN 49 (by decide)) hC.obj rfl ?_
  refine v_iconst (v := (0 : Int32)) C eX12_slhKeys_56 (by decide) ?_
  refine n_aald (b := ad 50) C I eX12_slhKeys_57 (hN 1 (by decide)) hC.slot 0 (rfl : (0 : Int32) = nI 0) (by omega) (by decide) (eRf_at (by omega)) ?_
  refine v_iconst (v := (0 : Int32)) C eX12_slhKeys_58 (by decide) ?_
  refine v_aload_n C eX12_slhKeys_59 rfl 0 rfl ?_
  refine n_get C I fX12_111_X12 eX12_slhKeys_60 (hN 49 (by decide)) hC.obj rfl ?_
  refine v_iconst (v := (0 : Int32)) C eX12_slhKeys_63 (by decide) ?_
  refine v_aload_n C eX12_slhKeys_64 rfl 0 rfl ?_
  refine n_get C I fX12_243_X12 eX12_slhKeys_65 (hN 49 (by decide)) hC.obj rfl ?_
  refine n_callS (av := [.ref (ad 50), .int (nI 0), .ref (ad 38), .int (nI 0), .int (nI nn)]) (rest := []) C mX12_239 (rs_mv I hN hC (kx := 50) (nx := 65536) (ko := 38) (no := 32) rfl (by decide) rfl (by decide) (by decide) 0 0 nn (by omega) (by omega) (nrw_sub hn0 (by omega) (by omega))) rfl (by omega) (by decide) ⟨by decide, by decide⟩ rfl (vi_c (hC.i41.trans h41) (vi_c (rfl : (0 : Int32) = nI 0) (vi_k (vi_c (rfl : (0 : Int32) = nI 0) (vi_k rfl))))) (Nat.le_of_ble_eq_true rfl) eX12_slhKeys_68 (fun r σ1 hp => ?_)
  obtain ⟨rfl, hC1, hk1, hv1⟩ := hp
  refine v_aload_n C eX12_slhKeys_71 rfl 0 rfl ?_
  refine n_get C I fX12_16_X12 eX12_slhKeys_72 (hN 49 (by decide)) hC1.obj rfl ?_
  refine v_iconst (v := (0 : Int32)) C eX12_slhKeys_75 (by decide) ?_
  refine n_aald (b := ad 50) C I eX12_slhKeys_76 (hN 1 (by decide)) hC1.slot 0 (rfl : (0 : Int32) = nI 0) (by omega) (by decide) (eRf_at (by omega)) ?_
  refine v_iconst (v := (2 : Int32)) C eX12_slhKeys_77 (by decide) ?_
  refine v_aload_n C eX12_slhKeys_78 rfl 0 rfl ?_
  refine n_get C I fX12_243_X12 eX12_slhKeys_79 (hN 49 (by decide)) hC1.obj rfl ?_
  refine v_imul C eX12_slhKeys_82 ?_
  refine v_aload_n C eX12_slhKeys_83 rfl 0 rfl ?_
  refine n_get C I fX12_108_X12 eX12_slhKeys_84 (hN 49 (by decide)) hC1.obj rfl ?_
  refine v_iconst (v := (0 : Int32)) C eX12_slhKeys_87 (by decide) ?_
  refine v_aload_n C eX12_slhKeys_88 rfl 0 rfl ?_
  refine n_get C I fX12_243_X12 eX12_slhKeys_89 (hN 49 (by decide)) hC1.obj rfl ?_
  refine n_callS (av := [.ref (ad 50), .int (nI (2 * nn)), .ref (ad 37), .int (nI 0), .int (nI nn)]) (rest := []) C mX12_239 (rs_mv I hN hC1 (kx := 50) (nx := 65536) (ko := 37) (no := 32) rfl (by decide) rfl (by decide) (by decide) (2 * nn) 0 nn (by omega) (by omega) (by rw [bt_same (hk1 50 (by decide))]; exact nrw_sub hn0 (by omega) (by omega))) rfl (by omega) (by decide) ⟨by decide, by decide⟩ rfl (vi_c (hC1.i41.trans h41) (vi_c (rfl : (0 : Int32) = nI 0) (vi_k (vi_c (ix_mul (a := 2) (b := nn) (rfl : (2 : Int32) = nI 2) (hC1.i41.trans h41)) (vi_k rfl))))) (Nat.le_of_ble_eq_true rfl) eX12_slhKeys_92 (fun r σ2 hp => ?_)
  obtain ⟨rfl, hC2, hk2, hv2⟩ := hp
  refine v_aload_n C eX12_slhKeys_95 rfl 0 rfl ?_
  refine v_aload_n C eX12_slhKeys_96 rfl 0 rfl ?_
  refine n_get C I fX12_249_X12 eX12_slhKeys_97 (hN 49 (by decide)) hC2.obj rfl ?_
  refine v_iconst (v := (1 : Int32)) C eX12_slhKeys_100 (by decide) ?_
  refine v_isub C eX12_slhKeys_101 ?_
  refine v_lconst (v := (0 : Int64)) C eX12_slhKeys_102 (by decide) ?_
  refine n_callV (As := [.int (nI (dd - 1)), .long ((0 : Int64))]) (rest := []) C I mX12_321 (rs_place I hN hC2 (nI (dd - 1)) 0) (hN 49 (by decide)) hC2.obj rfl (by omega) (by decide) ⟨by decide, by decide⟩ rfl (vi_k (vi_c (ix_sub (a := dd) (b := 1) (hC2.i43.trans h43) (rfl : (1 : Int32) = nI 1) (by omega)) rfl)) (Nat.le_of_ble_eq_true rfl) eX12_slhKeys_103 (fun r σ3 hp => ?_)
  obtain ⟨rfl, hC3, hk3, hv3⟩ := hp
  have hR3 : RC G ad θ x sh nn (sl (bt σ 50) (2 * nn) nn) (hdL (nI (dd - 1)) 0) (sl (bt σ 50) 0 nn) σ3 := ⟨hC3, ⟨h41, hnn, h48⟩, hv3, by rw [bt_same (hk3 37 (by decide)), hv2, sl_wr' sl_len, bt_same (hk1 50 (by decide))], by rw [bt_same (hk3 38 (by decide)), bt_same (hk2 38 (by decide)), hv1, sl_wr' sl_len]⟩
  refine v_aload_n C eX12_slhKeys_106 rfl 0 rfl ?_
  refine v_aload_n C eX12_slhKeys_107 rfl 0 rfl ?_
  refine n_get C I fX12_258_X12 eX12_slhKeys_108 (hN 49 (by decide)) hC3.obj rfl ?_
  refine v_iconst (v := (0 : Int32)) C eX12_slhKeys_111 (by decide) ?_
  refine v_aload_n C eX12_slhKeys_112 rfl 0 rfl ?_
  refine n_get C I fX12_117_X12 eX12_slhKeys_113 (hN 49 (by decide)) hC3.obj rfl ?_
  refine v_iconst (v := (0 : Int32)) C eX12_slhKeys_116 (by decide) ?_
  have h2h : 2 ^ hh ≤ 2 ^ 9 := Nat.pow_le_pow_right (by decide) hh9
  refine n_callV (As := [.int (nI hh), .int (nI 0), .ref (ad 40), .int (nI 0)]) (rest := []) C I mX12_288 (rc_node I hN h47 hh (by omega) hR3 (ko := 40) (no := 32) rfl (by decide) (by decide) (by decide) (by omega) 0 0 (by omega) (by omega)) (hN 49 (by decide)) hC3.obj rfl (by omega) (by decide) ⟨by decide, by decide⟩ rfl (vi_c (rfl : (0 : Int32) = nI 0) (vi_k (vi_c (rfl : (0 : Int32) = nI 0) (vi_c (hC3.i44.trans h44) rfl)))) (Nat.le_of_ble_eq_true rfl) eX12_slhKeys_117 (fun r σ4 hp => ?_)
  obtain ⟨rfl, hR4, hk4, hv4⟩ := hp
  have hC4 := hR4.s
  have h40 : sl (bt σ4 40) 0 nn = nodeL (fF θ sh nn (sl (bt σ 50) (2 * nn) nn) (hdL (nI (dd - 1)) 0)) (sl (bt σ 50) 0 nn) (2 * nn + 3) hh 0 := by rw [hv4, sl_wr' (nodeL_len _ _)]
  have hw40 : nrw (nodeL (fF θ sh nn (sl (bt σ 50) (2 * nn) nn) (hdL (nI (dd - 1)) 0)) (sl (bt σ 50) 0 nn) (2 * nn + 3) hh 0) := nrw_nodeL _ _
  refine v_aload_n C eX12_slhKeys_120 rfl 0 rfl ?_
  refine n_get C I fX12_108_X12 eX12_slhKeys_121 (hN 49 (by decide)) hC4.obj rfl ?_
  refine v_iconst (v := (0 : Int32)) C eX12_slhKeys_124 (by decide) ?_
  refine v_aload_n C eX12_slhKeys_125 rfl 0 rfl ?_
  refine n_get C I fX12_16_X12 eX12_slhKeys_126 (hN 49 (by decide)) hC4.obj rfl ?_
  refine v_iconst (v := (1 : Int32)) C eX12_slhKeys_129 (by decide) ?_
  refine n_aald (b := ad 51) C I eX12_slhKeys_130 (hN 1 (by decide)) hC4.slot 1 (rfl : (1 : Int32) = nI 1) (by omega) (by decide) (eRf_at (by omega)) ?_
  refine v_iconst (v := (0 : Int32)) C eX12_slhKeys_131 (by decide) ?_
  refine v_aload_n C eX12_slhKeys_132 rfl 0 rfl ?_
  refine n_get C I fX12_243_X12 eX12_slhKeys_133 (hN 49 (by decide)) hC4.obj rfl ?_
  refine n_callS (av := [.ref (ad 37), .int (nI 0), .ref (ad 51), .int (nI 0), .int (nI nn)]) (rest := []) C mX12_239 (rs_mv I hN hC4 (kx := 37) (nx := 32) (ko := 51) (no := 65536) rfl (by decide) rfl (by decide) (by decide) 0 0 nn (by omega) (by omega) (by rw [hR4.qP]; exact nrw_sub hn0 (by omega) (by omega))) rfl (by omega) (by decide) ⟨by decide, by decide⟩ rfl (vi_c (hC4.i41.trans h41) (vi_c (rfl : (0 : Int32) = nI 0) (vi_k (vi_c (rfl : (0 : Int32) = nI 0) (vi_k rfl))))) (Nat.le_of_ble_eq_true rfl) eX12_slhKeys_136 (fun r σ5 hp => ?_)
  obtain ⟨rfl, hC5, hk5, hv5⟩ := hp
  refine v_aload_n C eX12_slhKeys_139 rfl 0 rfl ?_
  refine n_get C I fX12_117_X12 eX12_slhKeys_140 (hN 49 (by decide)) hC5.obj rfl ?_
  refine v_iconst (v := (0 : Int32)) C eX12_slhKeys_143 (by decide) ?_
  refine v_aload_n C eX12_slhKeys_144 rfl 0 rfl ?_
  refine n_get C I fX12_16_X12 eX12_slhKeys_145 (hN 49 (by decide)) hC5.obj rfl ?_
  refine v_iconst (v := (1 : Int32)) C eX12_slhKeys_148 (by decide) ?_
  refine n_aald (b := ad 51) C I eX12_slhKeys_149 (hN 1 (by decide)) hC5.slot 1 (rfl : (1 : Int32) = nI 1) (by omega) (by decide) (eRf_at (by omega)) ?_
  refine v_aload_n C eX12_slhKeys_150 rfl 0 rfl ?_
  refine n_get C I fX12_243_X12 eX12_slhKeys_151 (hN 49 (by decide)) hC5.obj rfl ?_
  refine v_aload_n C eX12_slhKeys_154 rfl 0 rfl ?_
  refine n_get C I fX12_243_X12 eX12_slhKeys_155 (hN 49 (by decide)) hC5.obj rfl ?_
  refine n_callS (av := [.ref (ad 40), .int (nI 0), .ref (ad 51), .int (nI nn), .int (nI nn)]) (rest := []) C mX12_239 (rs_mv I hN hC5 (kx := 40) (nx := 32) (ko := 51) (no := 65536) rfl (by decide) rfl (by decide) (by decide) 0 nn nn (by omega) (by omega) (by rw [bt_same (hk5 40 (by decide)), h40]; exact hw40)) rfl (by omega) (by decide) ⟨by decide, by decide⟩ rfl (vi_c (hC5.i41.trans h41) (vi_c (hC5.i41.trans h41) (vi_k (vi_c (rfl : (0 : Int32) = nI 0) (vi_k rfl))))) (Nat.le_of_ble_eq_true rfl) eX12_slhKeys_158 (fun r σ6 hp => ?_)
  obtain ⟨rfl, hC6, hk6, hv6⟩ := hp
  refine v_aload_n C eX12_slhKeys_161 rfl 0 rfl ?_
  refine n_get C I fX12_19_X12 eX12_slhKeys_162 (hN 49 (by decide)) hC6.obj rfl ?_
  refine v_iconst (v := (1 : Int32)) C eX12_slhKeys_165 (by decide) ?_
  refine v_iconst (v := (2 : Int32)) C eX12_slhKeys_166 (by decide) ?_
  refine v_aload_n C eX12_slhKeys_167 rfl 0 rfl ?_
  refine n_get C I fX12_243_X12 eX12_slhKeys_168 (hN 49 (by decide)) hC6.obj rfl ?_
  refine v_imul C eX12_slhKeys_171 ?_
  refine v_natT (show ((2 : Int32)) * ((ox σ6) 41) = nI (2 * nn) from (ix_mul (a := 2) (b := nn) (rfl : (2 : Int32) = nI 2) (hC6.i41.trans h41))) ?_
  refine n_iast C I eX12_slhKeys_172 (hN 2 (by decide)) hC6.len 1 (rfl : (1 : Int32) = nI 1) (by omega) (by decide) ?_
  refine v_pic (fun σ7 hσ7 => ?_)
  have hC7 : RS G ad θ x σ7 := by rw [hσ7]; exact hC6.upI (Or.inl ⟨rfl, rfl⟩) _
  have hk7 : ∀ k, ¬ (k = 2) → σ7 k = σ6 k := fun k hk => by rw [hσ7]; exact n_ne hk
  have hv7 : bt σ7 2 = upd (bt σ6 2) 1 (nI (2 * nn)) := by rw [hσ7]; exact bt_I (G := G) (n := 8) (n_self (σ := σ6))
  have k7 : ∀ k, ¬ (13 ≤ k ∧ k ≤ 17 ∨ k = 49 ∨ k = 2 ∨ k = 28 ∨ k = 30 ∨ k = 37 ∨ k = 38 ∨ k = 40 ∨ k = 51 ∨ (58 < k ∧ k < 74)) → σ7 k = σ k := fun k hk => (hk7 k (by omega)).trans ((hk6 k (by omega)).trans ((hk5 k (by omega)).trans ((hk4 k (by omega)).trans ((hk3 k (by omega)).trans ((hk2 k (by omega)).trans (hk1 k (by omega)))))))
  refine v_aload_n C eX12_slhKeys_173 rfl 0 rfl ?_
  refine n_get C I fX12_16_X12 eX12_slhKeys_174 (hN 49 (by decide)) hC7.obj rfl ?_
  refine v_iconst (v := (0 : Int32)) C eX12_slhKeys_177 (by decide) ?_
  refine n_aald (b := ad 50) C I eX12_slhKeys_178 (hN 1 (by decide)) hC7.slot 0 (rfl : (0 : Int32) = nI 0) (by omega) (by decide) (eRf_at (by omega)) ?_
  refine v_iconst (v := (0 : Int32)) C eX12_slhKeys_179 (by decide) ?_
  refine v_aload_n C eX12_slhKeys_180 rfl 0 rfl ?_
  refine n_get C I fX12_16_X12 eX12_slhKeys_181 (hN 49 (by decide)) hC7.obj rfl ?_
  refine v_iconst (v := (2 : Int32)) C eX12_slhKeys_184 (by decide) ?_
  refine n_aald (b := ad 52) C I eX12_slhKeys_185 (hN 1 (by decide)) hC7.slot 2 (rfl : (2 : Int32) = nI 2) (by omega) (by decide) (eRf_at (by omega)) ?_
  refine v_iconst (v := (0 : Int32)) C eX12_slhKeys_186 (by decide) ?_
  refine v_iconst (v := (3 : Int32)) C eX12_slhKeys_187 (by decide) ?_
  refine v_aload_n C eX12_slhKeys_188 rfl 0 rfl ?_
  refine n_get C I fX12_243_X12 eX12_slhKeys_189 (hN 49 (by decide)) hC7.obj rfl ?_
  refine v_imul C eX12_slhKeys_192 ?_
  refine n_callS (av := [.ref (ad 50), .int (nI 0), .ref (ad 52), .int (nI 0), .int (nI (3 * nn))]) (rest := []) C mX12_239 (rs_mv I hN hC7 (kx := 50) (nx := 65536) (ko := 52) (no := 65536) rfl (by decide) rfl (by decide) (by decide) 0 0 (3 * nn) (by omega) (by omega) (by rw [bt_same (k7 50 (by omega))]; exact hn0)) rfl (by omega) (by decide) ⟨by decide, by decide⟩ rfl (vi_c (ix_mul (a := 3) (b := nn) (rfl : (3 : Int32) = nI 3) (hC7.i41.trans h41)) (vi_c (rfl : (0 : Int32) = nI 0) (vi_k (vi_c (rfl : (0 : Int32) = nI 0) (vi_k rfl))))) (Nat.le_of_ble_eq_true rfl) eX12_slhKeys_193 (fun r σ8 hp => ?_)
  obtain ⟨rfl, hC8, hk8, hv8⟩ := hp
  refine v_aload_n C eX12_slhKeys_196 rfl 0 rfl ?_
  refine n_get C I fX12_117_X12 eX12_slhKeys_197 (hN 49 (by decide)) hC8.obj rfl ?_
  refine v_iconst (v := (0 : Int32)) C eX12_slhKeys_200 (by decide) ?_
  refine v_aload_n C eX12_slhKeys_201 rfl 0 rfl ?_
  refine n_get C I fX12_16_X12 eX12_slhKeys_202 (hN 49 (by decide)) hC8.obj rfl ?_
  refine v_iconst (v := (2 : Int32)) C eX12_slhKeys_205 (by decide) ?_
  refine n_aald (b := ad 52) C I eX12_slhKeys_206 (hN 1 (by decide)) hC8.slot 2 (rfl : (2 : Int32) = nI 2) (by omega) (by decide) (eRf_at (by omega)) ?_
  refine v_iconst (v := (3 : Int32)) C eX12_slhKeys_207 (by decide) ?_
  refine v_aload_n C eX12_slhKeys_208 rfl 0 rfl ?_
  refine n_get C I fX12_243_X12 eX12_slhKeys_209 (hN 49 (by decide)) hC8.obj rfl ?_
  refine v_imul C eX12_slhKeys_212 ?_
  refine v_aload_n C eX12_slhKeys_213 rfl 0 rfl ?_
  refine n_get C I fX12_243_X12 eX12_slhKeys_214 (hN 49 (by decide)) hC8.obj rfl ?_
  have h40b : sl (bt σ8 40) 0 nn = nodeL (fF θ sh nn (sl (bt σ 50) (2 * nn) nn) (hdL (nI (dd - 1)) 0)) (sl (bt σ 50) 0 nn) (2 * nn + 3) hh 0 := by rw [bt_same (hk8 40 (by decide)), bt_same (hk7 40 (by decide)), bt_same (hk6 40 (by decide)), bt_same (hk5 40 (by decide)), h40]
  refine n_callS (av := [.ref (ad 40), .int (nI 0), .ref (ad 52), .int (nI (3 * nn)), .int (nI nn)]) (rest := []) C mX12_239 (rs_mv I hN hC8 (kx := 40) (nx := 32) (ko := 52) (no := 65536) rfl (by decide) rfl (by decide) (by decide) 0 (3 * nn) nn (by omega) (by omega) (by rw [h40b]; exact hw40)) rfl (by omega) (by decide) ⟨by decide, by decide⟩ rfl (vi_c (hC8.i41.trans h41) (vi_c (ix_mul (a := 3) (b := nn) (rfl : (3 : Int32) = nI 3) (hC8.i41.trans h41)) (vi_k (vi_c (rfl : (0 : Int32) = nI 0) (vi_k rfl))))) (Nat.le_of_ble_eq_true rfl) eX12_slhKeys_217 (fun r σ9 hp => ?_)
  obtain ⟨rfl, hC9, hk9, hv9⟩ := hp
  refine v_aload_n C eX12_slhKeys_220 rfl 0 rfl ?_
  refine n_get C I fX12_19_X12 eX12_slhKeys_221 (hN 49 (by decide)) hC9.obj rfl ?_
  refine v_iconst (v := (2 : Int32)) C eX12_slhKeys_224 (by decide) ?_
  refine v_iconst (v := (4 : Int32)) C eX12_slhKeys_225 (by decide) ?_
  refine v_aload_n C eX12_slhKeys_226 rfl 0 rfl ?_
  refine n_get C I fX12_243_X12 eX12_slhKeys_227 (hN 49 (by decide)) hC9.obj rfl ?_
  refine v_imul C eX12_slhKeys_230 ?_
  refine v_natT (show ((4 : Int32)) * ((ox σ9) 41) = nI (4 * nn) from (ix_mul (a := 4) (b := nn) (rfl : (4 : Int32) = nI 4) (hC9.i41.trans h41))) ?_
  refine n_iast C I eX12_slhKeys_231 (hN 2 (by decide)) hC9.len 2 (rfl : (2 : Int32) = nI 2) (by omega) (by decide) ?_
  refine v_pic (fun σA hσA => ?_)
  have hCA : RS G ad θ x σA := by rw [hσA]; exact hC9.upI (Or.inl ⟨rfl, rfl⟩) _
  have hkA : ∀ k, ¬ (k = 2) → σA k = σ9 k := fun k hk => by rw [hσA]; exact n_ne hk
  have hvA : bt σA 2 = upd (bt σ9 2) 2 (nI (4 * nn)) := by rw [hσA]; exact bt_I (G := G) (n := 8) (n_self (σ := σ9))
  refine v_iconst (v := (4 : Int32)) C eX12_slhKeys_232 (by decide) ?_
  refine v_aload_n C eX12_slhKeys_233 rfl 0 rfl ?_
  refine n_get C I fX12_243_X12 eX12_slhKeys_234 (hN 49 (by decide)) hCA.obj rfl ?_
  refine v_imul C eX12_slhKeys_237 ?_
  refine v_natT (show ((4 : Int32)) * ((ox σA) 41) = nI (4 * nn) from (ix_mul (a := 4) (b := nn) (rfl : (4 : Int32) = nI 4) (hCA.i41.trans h41))) ?_
  refine n_iret C rfl eX12_slhKeys_238 (hPost _ _ ⟨rfl, hCA, fun k hk => (hkA k (by omega)).trans ((hk9 k (by omega)).trans ((hk8 k (by omega)).trans (k7 k (by omega)))), ?_, ?_, ?_⟩)
  · rw [hvA, bt_same (hk9 2 (by decide)), bt_same (hk8 2 (by decide)), hv7, bt_same (hk6 2 (by decide)), bt_same (hk5 2 (by decide)), bt_same (hk4 2 (by omega)), bt_same (hk3 2 (by decide)), bt_same (hk2 2 (by decide)), bt_same (hk1 2 (by decide))]
  · rw [bt_same (hkA 51 (by decide)), bt_same (hk9 51 (by decide)), bt_same (hk8 51 (by decide)), bt_same (hk7 51 (by decide)), hv6, hv5, bt_same (hk5 40 (by decide)), h40, hR4.qP, wr_app (by rw [sl_len]; omega), sl_wr' (by rw [List.length_append, sl_len, nodeL_len]; omega)]
  · rw [bt_same (hkA 52 (by decide)), hv9, h40b, hv8, bt_same (k7 50 (by omega)), wr_app (by rw [sl_len]; omega), sl_wr' (by rw [List.length_append, sl_len, nodeL_len]; omega)]

set_option maxRecDepth 100000 in
set_option maxHeartbeats 4000000 in
theorem rs_nodeB (I : nI1 ad N) (hN : ∀ k, k < 74 → k < N) {p : Program} {e : Env} {R : Room} {s : State} {m : MethodId} {args : Array Value} {below : List Frame} {meth : Method} {c : Code}  (C : vC G B p m meth c cX12_slhNode 6 (some .int) s args yX12_slhNode.cls) (hC : RS G ad θ x σ) {hh : Nat} (h41 : x 41 = nI nn) (hnn : nn = 16 ∨ nn = 24 ∨ nn = 32) (h44 : x 44 = nI hh) (hh9 : hh ≤ 9) (h47 : x 47 = nI (2 * nn + 3)) (h48 : x 48 = if sh then 1 else 0) (ly z i : Nat) (tr : Int32) (hz : z ≤ 9) (hi : (i + 1) * 2 ^ z ≤ 2 ^ 30) (hn2 : nrw (sl (bt σ 52) 0 (4 * nn))) {d1 : Nat} (hR : R = vRm d1 0 0) (hd1 : 40 ≤ d1) {Post : Option Value → nS → Prop} (hPost : ∀ r σ', r = some (.int (if nodeL (fF θ sh nn (sl (bt σ 52) (2 * nn) nn) (hdL (nI ly) tr.toInt64)) (sl (bt σ 52) 0 nn) (2 * nn + 3) z i = sl (bt σ 52) (3 * nn) nn then 1 else 0)) ∧ RS G ad θ x σ' ∧ (∀ k, ¬ (13 ≤ k ∧ k ≤ 17 ∨ k = 49 ∨ k = 2 ∨ k = 28 ∨ k = 30 ∨ k = 37 ∨ k = 38 ∨ k = 56 ∨ (58 < k ∧ k < 74)) → σ' k = σ k) ∧ bt σ' 2 = upd (bt σ 2) 6 (nI nn) ∧ sl (bt σ' 56) 0 nn = nodeL (fF θ sh nn (sl (bt σ 52) (2 * nn) nn) (hdL (nI ly) tr.toInt64)) (sl (bt σ 52) 0 nn) (2 * nn + 3) z i → Post r σ') : V G B p l e R s m args below meth c 6 0 0 (MQ below (vQ G B (fun r w' => ∃ σ' : nS, w' = nW ad N σ' ∧ Post r σ')) args s 0 0 (fun q => B ≤ q)) (nW ad N σ) 116 [(0, .ref (ad 49)), (2, .int (nI ly)), (3, .int tr), (4, .int (nI z)), (5, .int (nI i))] [] := by
  subst hR
  refine v_aload_n C eX12_slhNode_116 rfl 0 rfl ?_
  refine n_get C I fX12_16_X12 eX12_slhNode_117 (hN 49 (by decide)) hC.obj rfl ?_
  refine v_iconst (v := (2 : Int32)) C eX12_slhNode_120 (by decide) ?_
  refine n_aald (b := ad 52) C I eX12_slhNode_121 (hN 1 (by decide)) hC.slot 2 (rfl : (2 : Int32) = nI 2) (by omega) (by decide) (eRf_at (by omega)) ?_
  refine v_iconst (v := (0 : Int32)) C eX12_slhNode_122 (by decide) ?_
  refine v_aload_n C eX12_slhNode_123 rfl 0 rfl ?_
  refine n_get C I fX12_111_X12 eX12_slhNode_124 (hN 49 (by decide)) hC.obj rfl ?_
  refine v_iconst (v := (0 : Int32)) C eX12_slhNode_127 (by decide) ?_
  refine v_aload_n C eX12_slhNode_128 rfl 0 rfl ?_
  refine n_get C I fX12_243_X12 eX12_slhNode_129 (hN 49 (by decide)) hC.obj rfl ?_
  refine n_callS (av := [.ref (ad 52), .int (nI 0), .ref (ad 38), .int (nI 0), .int (nI nn)]) (rest := []) C mX12_239 (rs_mv I hN hC (kx := 52) (nx := 65536) (ko := 38) (no := 32) rfl (by decide) rfl (by decide) (by decide) 0 0 nn (by omega) (by omega) (nrw_sub hn2 (by omega) (by omega))) rfl (by omega) (by decide) ⟨by decide, by decide⟩ rfl (vi_c (hC.i41.trans h41) (vi_c (rfl : (0 : Int32) = nI 0) (vi_k (vi_c (rfl : (0 : Int32) = nI 0) (vi_k rfl))))) (Nat.le_of_ble_eq_true rfl) eX12_slhNode_132 (fun r σ1 hp => ?_)
  obtain ⟨rfl, hC1, hk1, hv1⟩ := hp
  refine v_aload_n C eX12_slhNode_135 rfl 0 rfl ?_
  refine n_get C I fX12_16_X12 eX12_slhNode_136 (hN 49 (by decide)) hC1.obj rfl ?_
  refine v_iconst (v := (2 : Int32)) C eX12_slhNode_139 (by decide) ?_
  refine n_aald (b := ad 52) C I eX12_slhNode_140 (hN 1 (by decide)) hC1.slot 2 (rfl : (2 : Int32) = nI 2) (by omega) (by decide) (eRf_at (by omega)) ?_
  refine v_iconst (v := (2 : Int32)) C eX12_slhNode_141 (by decide) ?_
  refine v_aload_n C eX12_slhNode_142 rfl 0 rfl ?_
  refine n_get C I fX12_243_X12 eX12_slhNode_143 (hN 49 (by decide)) hC1.obj rfl ?_
  refine v_imul C eX12_slhNode_146 ?_
  refine v_aload_n C eX12_slhNode_147 rfl 0 rfl ?_
  refine n_get C I fX12_108_X12 eX12_slhNode_148 (hN 49 (by decide)) hC1.obj rfl ?_
  refine v_iconst (v := (0 : Int32)) C eX12_slhNode_151 (by decide) ?_
  refine v_aload_n C eX12_slhNode_152 rfl 0 rfl ?_
  refine n_get C I fX12_243_X12 eX12_slhNode_153 (hN 49 (by decide)) hC1.obj rfl ?_
  refine n_callS (av := [.ref (ad 52), .int (nI (2 * nn)), .ref (ad 37), .int (nI 0), .int (nI nn)]) (rest := []) C mX12_239 (rs_mv I hN hC1 (kx := 52) (nx := 65536) (ko := 37) (no := 32) rfl (by decide) rfl (by decide) (by decide) (2 * nn) 0 nn (by omega) (by omega) (by rw [bt_same (hk1 52 (by decide))]; exact nrw_sub hn2 (by omega) (by omega))) rfl (by omega) (by decide) ⟨by decide, by decide⟩ rfl (vi_c (hC1.i41.trans h41) (vi_c (rfl : (0 : Int32) = nI 0) (vi_k (vi_c (ix_mul (a := 2) (b := nn) (rfl : (2 : Int32) = nI 2) (hC1.i41.trans h41)) (vi_k rfl))))) (Nat.le_of_ble_eq_true rfl) eX12_slhNode_156 (fun r σ2 hp => ?_)
  obtain ⟨rfl, hC2, hk2, hv2⟩ := hp
  refine v_aload_n C eX12_slhNode_159 rfl 0 rfl ?_
  refine v_iload_n C eX12_slhNode_160 rfl 1 rfl ?_
  refine v_iload_n C eX12_slhNode_161 rfl 2 rfl ?_
  refine v_i2l C eX12_slhNode_162 ?_
  refine n_callV (As := [.int (nI ly), .long tr.toInt64]) (rest := []) C I mX12_321 (rs_place I hN hC2 (nI ly) tr.toInt64) (hN 49 (by decide)) hC2.obj rfl (by omega) (by decide) ⟨by decide, by decide⟩ rfl (vi_k (vi_c (rfl : nI ly = nI ly) rfl)) (Nat.le_of_ble_eq_true rfl) eX12_slhNode_163 (fun r σ3 hp => ?_)
  obtain ⟨rfl, hC3, hk3, hv3⟩ := hp
  have hR3 : RC G ad θ x sh nn (sl (bt σ 52) (2 * nn) nn) (hdL (nI ly) tr.toInt64) (sl (bt σ 52) 0 nn) σ3 := ⟨hC3, ⟨h41, hnn, h48⟩, hv3, by rw [bt_same (hk3 37 (by decide)), hv2, sl_wr' sl_len, bt_same (hk1 52 (by decide))], by rw [bt_same (hk3 38 (by decide)), bt_same (hk2 38 (by decide)), hv1, sl_wr' sl_len]⟩
  refine v_aload_n C eX12_slhNode_166 rfl 0 rfl ?_
  refine v_iload C eX12_slhNode_167 3 rfl ?_
  refine v_iload C eX12_slhNode_169 4 rfl ?_
  refine v_aload_n C eX12_slhNode_171 rfl 0 rfl ?_
  refine n_get C I fX12_16_X12 eX12_slhNode_172 (hN 49 (by decide)) hC3.obj rfl ?_
  refine v_bipush (v := (6 : Int32)) C eX12_slhNode_175 (by decide) ?_
  refine n_aald (b := ad 56) C I eX12_slhNode_177 (hN 1 (by decide)) hC3.slot 6 (rfl : (6 : Int32) = nI 6) (by omega) (by decide) (eRf_at (by omega)) ?_
  refine v_iconst (v := (0 : Int32)) C eX12_slhNode_178 (by decide) ?_
  refine n_callV (As := [.int (nI z), .int (nI i), .ref (ad 56), .int (nI 0)]) (rest := []) C I mX12_288 (rc_node I hN h47 z (by omega) hR3 (ko := 56) (no := 65536) rfl (by decide) (by decide) (by decide) (by omega) i 0 hi (by omega)) (hN 49 (by decide)) hC3.obj rfl (by omega) (by decide) ⟨by decide, by decide⟩ rfl (vi_c (rfl : (0 : Int32) = nI 0) (vi_k (vi_c (rfl : nI i = nI i) (vi_c (rfl : nI z = nI z) rfl)))) (Nat.le_of_ble_eq_true rfl) eX12_slhNode_179 (fun r σ4 hp => ?_)
  obtain ⟨rfl, hR4, hk4, hv4⟩ := hp
  have hC4 := hR4.s
  refine v_aload_n C eX12_slhNode_182 rfl 0 rfl ?_
  refine n_get C I fX12_19_X12 eX12_slhNode_183 (hN 49 (by decide)) hC4.obj rfl ?_
  refine v_bipush (v := (6 : Int32)) C eX12_slhNode_186 (by decide) ?_
  refine v_aload_n C eX12_slhNode_188 rfl 0 rfl ?_
  refine n_get C I fX12_243_X12 eX12_slhNode_189 (hN 49 (by decide)) hC4.obj rfl ?_
  refine v_natT (show (ox σ4) 41 = nI nn from (hC4.i41.trans h41)) ?_
  refine n_iast C I eX12_slhNode_192 (hN 2 (by decide)) hC4.len 6 (rfl : (6 : Int32) = nI 6) (by omega) (by decide) ?_
  refine v_pic (fun σ5 hσ5 => ?_)
  have hC5 : RS G ad θ x σ5 := by rw [hσ5]; exact hC4.upI (Or.inl ⟨rfl, rfl⟩) _
  have hk5 : ∀ k, ¬ (k = 2) → σ5 k = σ4 k := fun k hk => by rw [hσ5]; exact n_ne hk
  have hv5 : bt σ5 2 = upd (bt σ4 2) 6 (nI nn) := by rw [hσ5]; exact bt_I (G := G) (n := 8) (n_self (σ := σ4))
  have k5 : ∀ k, ¬ (13 ≤ k ∧ k ≤ 17 ∨ k = 49 ∨ k = 2 ∨ k = 28 ∨ k = 30 ∨ k = 37 ∨ k = 38 ∨ k = 56 ∨ (58 < k ∧ k < 74)) → σ5 k = σ k := fun k hk => (hk5 k (by omega)).trans ((hk4 k (by omega)).trans ((hk3 k (by omega)).trans ((hk2 k (by omega)).trans (hk1 k (by omega)))))
  refine v_aload_n C eX12_slhNode_193 rfl 0 rfl ?_
  refine n_get C I fX12_16_X12 eX12_slhNode_194 (hN 49 (by decide)) hC5.obj rfl ?_
  refine v_bipush (v := (6 : Int32)) C eX12_slhNode_197 (by decide) ?_
  refine n_aald (b := ad 56) C I eX12_slhNode_199 (hN 1 (by decide)) hC5.slot 6 (rfl : (6 : Int32) = nI 6) (by omega) (by decide) (eRf_at (by omega)) ?_
  refine v_iconst (v := (0 : Int32)) C eX12_slhNode_200 (by decide) ?_
  refine v_aload_n C eX12_slhNode_201 rfl 0 rfl ?_
  refine n_get C I fX12_16_X12 eX12_slhNode_202 (hN 49 (by decide)) hC5.obj rfl ?_
  refine v_iconst (v := (2 : Int32)) C eX12_slhNode_205 (by decide) ?_
  refine n_aald (b := ad 52) C I eX12_slhNode_206 (hN 1 (by decide)) hC5.slot 2 (rfl : (2 : Int32) = nI 2) (by omega) (by decide) (eRf_at (by omega)) ?_
  refine v_iconst (v := (3 : Int32)) C eX12_slhNode_207 (by decide) ?_
  refine v_aload_n C eX12_slhNode_208 rfl 0 rfl ?_
  refine n_get C I fX12_243_X12 eX12_slhNode_209 (hN 49 (by decide)) hC5.obj rfl ?_
  refine v_imul C eX12_slhNode_212 ?_
  refine v_aload_n C eX12_slhNode_213 rfl 0 rfl ?_
  refine n_get C I fX12_243_X12 eX12_slhNode_214 (hN 49 (by decide)) hC5.obj rfl ?_
  refine n_callS (av := [.ref (ad 56), .int (nI 0), .ref (ad 52), .int (nI (3 * nn)), .int (nI nn)]) (rest := []) C mX12_358 (rs_alike I hN hC5 (kx := 56) (nx := 65536) (ky := 52) (ny := 65536) rfl (by decide) rfl (by decide) 0 (3 * nn) nn (by omega) (by omega)) rfl (by omega) (by decide) ⟨by decide, by decide⟩ rfl (vi_c (hC5.i41.trans h41) (vi_c (ix_mul (a := 3) (b := nn) (rfl : (3 : Int32) = nI 3) (hC5.i41.trans h41)) (vi_k (vi_c (rfl : (0 : Int32) = nI 0) (vi_k rfl))))) (Nat.le_of_ble_eq_true rfl) eX12_slhNode_217 (fun r ρ hp => ?_)
  obtain ⟨rfl, hρ⟩ := hp
  rw [hρ]
  have h56 : sl (bt σ5 56) 0 nn = nodeL (fF θ sh nn (sl (bt σ 52) (2 * nn) nn) (hdL (nI ly) tr.toInt64)) (sl (bt σ 52) 0 nn) (2 * nn + 3) z i := by rw [bt_same (hk5 56 (by decide)), hv4, sl_wr' (nodeL_len _ _)]
  refine v_if_eq (tgt := 227) C eX12_slhNode_220 (by decide) (fun c1 => ?_) (fun c1 => ?_)
  · refine v_iconst (v := (0 : Int32)) C eX12_slhNode_227 (by decide) ?_
    refine n_iret C rfl eX12_slhNode_228 (hPost _ _ ⟨?_, hC5, k5, ?_, h56⟩)
    · unfold alk at c1; rw [h56, bt_same (k5 52 (by omega))] at c1; by_cases g : nodeL (fF θ sh nn (sl (bt σ 52) (2 * nn) nn) (hdL (nI ly) tr.toInt64)) (sl (bt σ 52) 0 nn) (2 * nn + 3) z i = sl (bt σ 52) (3 * nn) nn
      · rw [if_pos g] at c1; exact absurd c1 (by decide)
      · rw [if_neg g]
    · rw [hv5, bt_same (hk4 2 (by omega)), bt_same (hk3 2 (by decide)), bt_same (hk2 2 (by decide)), bt_same (hk1 2 (by decide))]
  · refine v_iconst (v := (1 : Int32)) C eX12_slhNode_223 (by decide) ?_
    refine v_goto (tgt := 228) C eX12_slhNode_224 (by decide) ?_
    refine n_iret C rfl eX12_slhNode_228 (hPost _ _ ⟨?_, hC5, k5, ?_, h56⟩)
    · unfold alk at c1; rw [h56, bt_same (k5 52 (by omega))] at c1; by_cases g : nodeL (fF θ sh nn (sl (bt σ 52) (2 * nn) nn) (hdL (nI ly) tr.toInt64)) (sl (bt σ 52) 0 nn) (2 * nn + 3) z i = sl (bt σ 52) (3 * nn) nn
      · rw [if_pos g]
      · rw [if_neg g] at c1; exact absurd rfl c1
    · rw [hv5, bt_same (hk4 2 (by omega)), bt_same (hk3 2 (by decide)), bt_same (hk2 2 (by decide)), bt_same (hk1 2 (by decide))]

end M27
