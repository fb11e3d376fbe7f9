def howI (hw : Bool) : Int32 := if hw then 0 else -1
/-- what is signed -/
def sgM (hw : Bool) (C M : List Int32) : List Int32 := if hw then [0, nI C.length] ++ C ++ M else M
theorem ix_or8 {x y : Int32} {a b : Nat} (hx : x = nI (a * 256)) (hy : y = nI b) (ha : a < 2 ^ 20) (hb : b < 256) : x ||| y = nI (a * 256 + b) := by
  subst hx; subst hy
  have h1 := pk_tn (n := a * 256) (by omega)
  have h2 := pk_tn (n := b) (by omega)
  have h3 : a * 256 ||| b = a * 256 + b := by
    have := Nat.shiftLeft_add_eq_or_of_lt (i := 8) (b := b) (by omega) a
    rw [Nat.shiftLeft_eq] at this
    exact this.symm
  refine Int32.toBitVec_inj.mp (BitVec.eq_of_toNat_eq ?_)
  rw [Int32.toBitVec_or, BitVec.toNat_or, h1, h2, h3, pk_tn (by omega)]
theorem ix_mask {x y : Int32} {a h : Nat} (hx : x = nI a) (hy : y = nI (2 ^ h - 1)) (ha : a < 2 ^ 31) (hh : h ≤ 31) : x &&& y = nI (a % 2 ^ h) := by
  subst hx; subst hy
  have h2 : 2 ^ h ≤ 2 ^ 31 := Nat.pow_le_pow_right (by decide) hh
  exact pk_andN (by omega) h (pk_tn (by omega))
def trS (T : List Int32) (u : Nat) : Nat → Int64
  | 0 => 0
  | i + 1 => (trS T u i <<< ((8 : Int32).toInt64 &&& 63)) ||| ((T.getD (u + i) 0).toInt64 &&& 255)
def trN (T : List Int32) (u v b : Nat) : Int64 := if b = 64 then trS T u v else trS T u v &&& ((1 <<< ((nI b).toInt64 &&& 63)) - 1)
def prS (T : List Int32) (u : Nat) : Nat → Nat
  | 0 => 0
  | i + 1 => prS T u i * 256 + (T.getD (u + i) 0).toBitVec.toNat % 2 ^ 8
theorem prS_lt {T : List Int32} {u : Nat} : ∀ n, prS T u n < 256 ^ n
  | 0 => Nat.one_pos
  | n + 1 => by
    have := prS_lt (T := T) (u := u) n
    show prS T u n * 256 + (T.getD (u + n) 0).toBitVec.toNat % 2 ^ 8 < 256 ^ (n + 1)
    rw [Nat.pow_succ]
    omega
def bsz (k : Nat) : Nat := if k = 1 then 64 else 128
/-- the digest of a message -/
def dtL (θ : tT) (sh : Bool) (nn m : Nat) (R P Q M : List Int32) : List Int32 := if sh then dgL θ 12 m (R ++ P ++ Q ++ M) else mkL θ (if nn = 16 then 1 else 3) m (R ++ P ++ dgL θ (if nn = 16 then 1 else 3) (dsz (if nn = 16 then 1 else 3)) (R ++ P ++ Q ++ M)) ((m + dsz (if nn = 16 then 1 else 3) - 1) / dsz (if nn = 16 then 1 else 3))
theorem mkL_len' {θ : tT} {k m n : Nat} {seed : List Int32} (h1 : n * dsz k ≤ m) (h2 : m ≤ (n + 1) * dsz k) : (mkL θ k m seed (n + 1)).length = m := by
  show (mkL θ k m seed n ++ mkB θ k m seed n).length = m
  rw [List.length_append, mkL_len n h1]
  unfold mkB
  rw [List.length_take, dgL_len]
  rw [Nat.succ_mul] at h2
  omega
theorem dtL_len {θ : tT} {sh : Bool} {nn m : Nat} {R P Q M : List Int32} (hm : 0 < m) : (dtL θ sh nn m R P Q M).length = m := by
  unfold dtL
  cases sh with
  | true => exact dgL_len
  | false =>
    simp only [Bool.false_eq_true, if_false]
    have hd : dsz (if nn = 16 then 1 else 3) = 32 ∨ dsz (if nn = 16 then 1 else 3) = 64 := by
      by_cases q : nn = 16
      · rw [if_pos q]; exact Or.inl rfl
      · rw [if_neg q]; exact Or.inr rfl
    generalize hkk : (if nn = 16 then 1 else 3) = kk at hd ⊢
    have h0 : (m + dsz kk - 1) / dsz kk = ((m + dsz kk - 1) / dsz kk - 1) + 1 := by
      rcases hd with h | h <;> rw [h] <;> omega
    rw [h0]
    refine mkL_len' ?_ ?_
    · rcases hd with h | h <;> rw [h] <;> omega
    · rcases hd with h | h <;> rw [h] <;> omega
section M26
variable {G : vG} {B : Nat} {l : Launch} {ad : Nat → Nat} {N : Nat} {θ : tT} {x : Nat → Int32} {σ : nS} {bs : List Int32}
theorem rt_putSigned (I : nI1 ad N) (hN : ∀ k, k < 74 → k < N) {k : Nat} (hk : k = 1 ∨ k = 3 ∨ k = 12) (hT : RT G ad θ x k bs σ) (hw : Bool) {l3 l4 : Nat} (h3 : bt σ 2 3 = nI l3) (h4 : bt σ 2 4 = nI l4) (hl3 : l3 ≤ 65536) (hl4 : l4 ≤ 65536) : nOk G B l ad N yX12_putSigned cX12_putSigned 2 none 4 0 0 [.ref (ad 49), .int (howI hw)] σ (fun r σ' => r = none ∧ RT G ad θ x k (bs ++ sgM hw (sl (bt σ 54) 0 l4) (sl (bt σ 53) 0 l3)) σ' ∧ (∀ j, ¬ (13 ≤ j ∧ j ≤ 17 ∨ j = 49) → σ' j = σ j)) := by
  cases hw with
  | true =>
    have := rt_putSigned0 (B := B) (l := l) I hN hk hT h3 h4 hl3 hl4
    unfold sgM
    rw [sl_len]
    exact this
  | false => exact rt_putSigned1 I hN hk hT h3 hl3
theorem rs_before (I : nI1 ad N) (hN : ∀ k, k < 74 → k < N) (hw : Bool) : nOk G B l ad N yX12_before cX12_before 2 none 0 0 0 [.ref (ad 49), .int (howI hw)] σ (fun r σ' => r = none ∧ σ' = σ) := by
  cases hw with
  | true => exact rs_before0 I hN
  | false => exact rs_before1 I hN
theorem rs_context (I : nI1 ad N) (hN : ∀ k, k < 74 → k < N) (hC : RS G ad θ x σ) (hw : Bool) {l4 : Nat} (h4 : bt σ 2 4 = nI l4) (hl : l4 ≤ 65536) : nOk G B l ad N yX12_context cX12_context 2 (some .boolean) 0 0 0 [.ref (ad 49), .int (howI hw)] σ (fun r σ' => r = some (.int (if hw = false ∨ l4 ≤ 255 then 1 else 0)) ∧ σ' = σ) := by
  cases hw with
  | true =>
    have := rs_context0 (B := B) (l := l) I hN hC h4 hl
    rw [show howI true = 0 from rfl]
    simpa using this
  | false =>
    have := rs_context1 (B := B) (l := l) (σ := σ) (ad := ad) (G := G) I hN
    rw [show howI false = -1 from rfl]
    simpa using this
set_option maxRecDepth 100000 in
set_option maxHeartbeats 4000000 in
theorem rs_digestTree12 (I : nI1 ad N) (hN : ∀ k, k < 74 → k < N) (hC : RS G ad θ x σ) {nn tt aa th hh : Nat} (h41 : x 41 = nI nn) (h42 : x 42 = nI th) (h44 : x 44 = nI hh) (h45 : x 45 = nI aa) (h46 : x 46 = nI tt) (hht : hh ≤ th) (hb1 : tt * aa < 2 ^ 20) (hb2 : th < 2 ^ 20) (hnn : nn = 16 ∨ nn = 24 ∨ nn = 32) (h48 : x 48 = 1) {mm : Nat} (hmm : (tt * aa + 7) / 8 + (th - hh + 7) / 8 + (hh + 7) / 8 = mm) (hm64 : mm ≤ 64) (hw : Bool) {l3 l4 : Nat} (h3 : bt σ 2 3 = nI l3) (h4 : bt σ 2 4 = nI l4) (hl3 : l3 ≤ 65536) (hl4 : l4 ≤ 65536) {kx nx : Nat} (hkx : rLn kx = nx) (hx0 : 0 < nx) (hf : kx ≠ 26 ∧ kx ≠ 25) (a : Nat) (ha : a + nn ≤ nx) (hnr : nrw (sl (bt σ kx) a nn)) (hnp : nrw (sl (bt σ 37) 0 nn)) : nOk G B l ad N yX12_digestTree cX12_digestTree 6 none 7 0 0 [.ref (ad 49), .ref (ad kx), .int (nI a), .int (howI hw)] σ (fun r σ' => r = none ∧ RS G ad θ x σ' ∧ (∀ k, ¬ (13 ≤ k ∧ k ≤ 17 ∨ k = 49 ∨ k = 23 ∨ k = 25 ∨ k = 26 ∨ k = 35) → σ' k = σ k) ∧ bt σ' 35 = wr (bt σ 35) 0 (dtL θ true nn mm (sl (bt σ kx) a nn) (sl (bt σ 37) 0 nn) (sl (bt σ 40) 0 nn) (sgM hw (sl (bt σ 54) 0 l4) (sl (bt σ 53) 0 l3)))) := by
  refine vOk.of (by decide +kernel) (Nat.le_of_ble_eq_true rfl) ?_
  intro p e s m args below meth c C
  refine v_eq (lv' := [(0, .ref (ad 49)), (1, .ref (ad kx)), (2, .int (nI a)), (3, .int (howI hw))]) rfl rfl rfl ?_
  have hxh := rLn_h (k := kx) (by omega)
  have hk : 12 = 1 ∨ 12 = 3 ∨ 12 = 12 := by decide
  refine v_aload_n C eX12_digestTree_0 rfl 0 rfl ?_
  refine n_get C I fX12_255_X12 eX12_digestTree_1 (hN 49 (by decide)) hC.obj rfl ?_
  refine v_aload_n C eX12_digestTree_4 rfl 0 rfl ?_
  refine n_get C I fX12_252_X12 eX12_digestTree_5 (hN 49 (by decide)) hC.obj rfl ?_
  refine v_imul C eX12_digestTree_8 ?_
  refine v_bipush (v := (7 : Int32)) C eX12_digestTree_9 (by decide) ?_
  refine v_iadd C eX12_digestTree_11 ?_
  refine v_bipush (v := (8 : Int32)) C eX12_digestTree_12 (by decide) ?_
  refine v_idiv C eX12_digestTree_14 (by decide) ?_
  refine v_aload_n C eX12_digestTree_15 rfl 0 rfl ?_
  refine n_get C I fX12_246_X12 eX12_digestTree_16 (hN 49 (by decide)) hC.obj rfl ?_
  refine v_aload_n C eX12_digestTree_19 rfl 0 rfl ?_
  refine n_get C I fX12_258_X12 eX12_digestTree_20 (hN 49 (by decide)) hC.obj rfl ?_
  refine v_isub C eX12_digestTree_23 ?_
  refine v_bipush (v := (7 : Int32)) C eX12_digestTree_24 (by decide) ?_
  refine v_iadd C eX12_digestTree_26 ?_
  refine v_bipush (v := (8 : Int32)) C eX12_digestTree_27 (by decide) ?_
  refine v_idiv C eX12_digestTree_29 (by decide) ?_
  refine v_iadd C eX12_digestTree_30 ?_
  refine v_aload_n C eX12_digestTree_31 rfl 0 rfl ?_
  refine n_get C I fX12_258_X12 eX12_digestTree_32 (hN 49 (by decide)) hC.obj rfl ?_
  refine v_bipush (v := (7 : Int32)) C eX12_digestTree_35 (by decide) ?_
  refine v_iadd C eX12_digestTree_37 ?_
  refine v_bipush (v := (8 : Int32)) C eX12_digestTree_38 (by decide) ?_
  refine v_idiv C eX12_digestTree_40 (by decide) ?_
  refine v_iadd C eX12_digestTree_41 ?_
  refine v_natT (show ((((((ox σ) 46) * ((ox σ) 45)) + ((7 : Int32))) / ((8 : Int32))) + (((((ox σ) 42) - ((ox σ) 44)) + ((7 : Int32))) / ((8 : Int32)))) + ((((ox σ) 44) + ((7 : Int32))) / ((8 : Int32))) = nI mm from ((ix_add (a := (((tt * aa) + 7) / 8) + (((th - hh) + 7) / 8)) (b := (hh + 7) / 8) (ix_add (a := ((tt * aa) + 7) / 8) (b := ((th - hh) + 7) / 8) (ix_div (a := (tt * aa) + 7) (d := 8) (ix_add (a := tt * aa) (b := 7) (ix_mul (a := tt) (b := aa) (hC.i46.trans h46) (hC.i45.trans h45)) (rfl : (7 : Int32) = nI 7)) (rfl : (8 : Int32) = nI 8) (by omega) (by omega) (by omega)) (ix_div (a := (th - hh) + 7) (d := 8) (ix_add (a := th - hh) (b := 7) (ix_sub (a := th) (b := hh) (hC.i42.trans h42) (hC.i44.trans h44) (by omega)) (rfl : (7 : Int32) = nI 7)) (rfl : (8 : Int32) = nI 8) (by omega) (by omega) (by omega))) (ix_div (a := hh + 7) (d := 8) (ix_add (a := hh) (b := 7) (hC.i44.trans h44) (rfl : (7 : Int32) = nI 7)) (rfl : (8 : Int32) = nI 8) (by omega) (by omega) (by omega)))).trans (congrArg nI hmm)) ?_
  refine v_istore (lv' := [(0, .ref (ad 49)), (1, .ref (ad kx)), (2, .int (nI a)), (3, .int (howI hw)), (4, .int (nI mm))]) C eX12_digestTree_42 (by decide) [1, 2, 3, 4, 0] rfl ?_
  refine v_aload_n C eX12_digestTree_44 rfl 0 rfl ?_
  refine v_iload_n C eX12_digestTree_45 rfl 3 rfl ?_
  refine n_callV (As := [.int (howI hw)]) (rest := []) C I mX12_305 (rs_before I hN hw) (hN 49 (by decide)) hC.obj rfl (by decide) (by decide) ⟨by decide, by decide⟩ rfl (vi_k rfl) (Nat.le_of_ble_eq_true rfl) eX12_digestTree_46 (fun r ρ hp => ?_)
  obtain ⟨rfl, hρ⟩ := hp
  rw [hρ]
  clear hρ ρ
  refine v_aload_n C eX12_digestTree_49 rfl 0 rfl ?_
  refine v_aload_n C eX12_digestTree_50 rfl 0 rfl ?_
  refine n_get C I fX12_264_X12 eX12_digestTree_51 (hN 49 (by decide)) hC.obj rfl ?_
  refine v_if_eq (tgt := 62) C eX12_digestTree_54 (by decide) (fun h => absurd h (by rw [hC.i48, h48]; decide)) (fun _ => ?_)
  refine v_bipush (v := nI 12) C eX12_digestTree_57 (by decide) ?_
  refine v_goto (tgt := 66) C eX12_digestTree_59 (by decide) ?_
  refine n_callV (As := [.int (nI 12)]) (rest := []) C I mX12_166 (rt_begin I hN hC hk) (hN 49 (by decide)) hC.obj rfl (by decide) (by decide) ⟨by decide, by decide⟩ rfl (vi_c (rfl : nI 12 = nI 12) rfl) (Nat.le_of_ble_eq_true rfl) eX12_digestTree_66 (fun r σ1 hp => ?_)
  obtain ⟨rfl, hT1, hk1⟩ := hp
  have hC1 := hT1.1
  refine v_aload_n C eX12_digestTree_69 rfl 0 rfl ?_
  refine v_aload_n C eX12_digestTree_70 rfl 1 rfl ?_
  refine v_iload_n C eX12_digestTree_71 rfl 2 rfl ?_
  refine v_aload_n C eX12_digestTree_72 rfl 0 rfl ?_
  refine n_get C I fX12_243_X12 eX12_digestTree_73 (hN 49 (by decide)) hC1.obj rfl ?_
  refine n_callV (As := [.ref (ad kx), .int (nI a), .int (nI nn)]) (rest := []) C I mX12_233 (rt_putA I hN hT1 hk hkx hx0 a nn ha) (hN 49 (by decide)) hC1.obj rfl (by decide) (by decide) ⟨by decide, by decide⟩ rfl (vi_c (hC1.i41.trans h41) (vi_c (rfl : nI a = nI a) (vi_k rfl))) (Nat.le_of_ble_eq_true rfl) eX12_digestTree_76 (fun r σ2 hp => ?_)
  obtain ⟨rfl, hT2, hk2⟩ := hp
  have hC2 := hT2.1
  refine v_aload_n C eX12_digestTree_79 rfl 0 rfl ?_
  refine v_aload_n C eX12_digestTree_80 rfl 0 rfl ?_
  refine n_get C I fX12_108_X12 eX12_digestTree_81 (hN 49 (by decide)) hC2.obj rfl ?_
  refine v_iconst (v := (0 : Int32)) C eX12_digestTree_84 (by decide) ?_
  refine v_aload_n C eX12_digestTree_85 rfl 0 rfl ?_
  refine n_get C I fX12_243_X12 eX12_digestTree_86 (hN 49 (by decide)) hC2.obj rfl ?_
  refine n_callV (As := [.ref (ad 37), .int (nI 0), .int (nI nn)]) (rest := []) C I mX12_233 (rt_putA I hN hT2 hk (kb := 37) (nb := 32) rfl (by decide) 0 nn (by omega)) (hN 49 (by decide)) hC2.obj rfl (by decide) (by decide) ⟨by decide, by decide⟩ rfl (vi_c (hC2.i41.trans h41) (vi_c (rfl : (0 : Int32) = nI 0) (vi_k rfl))) (Nat.le_of_ble_eq_true rfl) eX12_digestTree_89 (fun r σ3 hp => ?_)
  obtain ⟨rfl, hT3, hk3⟩ := hp
  have hC3 := hT3.1
  refine v_aload_n C eX12_digestTree_92 rfl 0 rfl ?_
  refine v_aload_n C eX12_digestTree_93 rfl 0 rfl ?_
  refine n_get C I fX12_117_X12 eX12_digestTree_94 (hN 49 (by decide)) hC3.obj rfl ?_
  refine v_iconst (v := (0 : Int32)) C eX12_digestTree_97 (by decide) ?_
  refine v_aload_n C eX12_digestTree_98 rfl 0 rfl ?_
  refine n_get C I fX12_243_X12 eX12_digestTree_99 (hN 49 (by decide)) hC3.obj rfl ?_
  refine n_callV (As := [.ref (ad 40), .int (nI 0), .int (nI nn)]) (rest := []) C I mX12_233 (rt_putA I hN hT3 hk (kb := 40) (nb := 32) rfl (by decide) 0 nn (by omega)) (hN 49 (by decide)) hC3.obj rfl (by decide) (by decide) ⟨by decide, by decide⟩ rfl (vi_c (hC3.i41.trans h41) (vi_c (rfl : (0 : Int32) = nI 0) (vi_k rfl))) (Nat.le_of_ble_eq_true rfl) eX12_digestTree_102 (fun r σ4 hp => ?_)
  obtain ⟨rfl, hT4, hk4⟩ := hp
  have hC4 := hT4.1
  refine v_aload_n C eX12_digestTree_105 rfl 0 rfl ?_
  refine v_iload_n C eX12_digestTree_106 rfl 3 rfl ?_
  have kk : ∀ j, ¬ (13 ≤ j ∧ j ≤ 17 ∨ j = 49) → σ4 j = σ j := fun j hj => (hk4 j hj).trans ((hk3 j hj).trans ((hk2 j hj).trans (hk1 j hj)))
  refine n_callV (As := [.int (howI hw)]) (rest := []) C I mX12_311 (rt_putSigned I hN hk hT4 hw (l3 := l3) (l4 := l4) (by rw [bt_same (kk 2 (by decide))]; exact h3) (by rw [bt_same (kk 2 (by decide))]; exact h4) hl3 hl4) (hN 49 (by decide)) hC4.obj rfl (by decide) (by decide) ⟨by decide, by decide⟩ rfl (vi_k rfl) (Nat.le_of_ble_eq_true rfl) eX12_digestTree_107 (fun r σ5 hp => ?_)
  obtain ⟨rfl, hT5, hk5⟩ := hp
  have hC5 := hT5.1
  have kk5 : ∀ j, ¬ (13 ≤ j ∧ j ≤ 17 ∨ j = 49) → σ5 j = σ j := fun j hj => (hk5 j hj).trans (kk j hj)
  have hT5' : RT G ad θ x 12 (sl (bt σ kx) a nn ++ sl (bt σ 37) 0 nn ++ sl (bt σ 40) 0 nn ++ sgM hw (sl (bt σ 54) 0 l4) (sl (bt σ 53) 0 l3)) σ5 := by
    rw [bt_same (kk 54 (by decide)), bt_same (kk 53 (by decide)), bt_same (hk1 kx hxh), bt_same (hk2 37 (by decide)), bt_same (hk1 37 (by decide)), bt_same (hk3 40 (by decide)), bt_same (hk2 40 (by decide)), bt_same (hk1 40 (by decide)), List.nil_append] at hT5; exact hT5
  refine v_aload_n C eX12_digestTree_110 rfl 0 rfl ?_
  refine n_get C I fX12_264_X12 eX12_digestTree_111 (hN 49 (by decide)) hC5.obj rfl ?_
  refine v_if_eq (tgt := 129) C eX12_digestTree_114 (by decide) (fun h => absurd h (by rw [hC5.i48, h48]; decide)) (fun _ => ?_)
  refine v_aload_n C eX12_digestTree_117 rfl 0 rfl ?_
  refine v_aload_n C eX12_digestTree_118 rfl 0 rfl ?_
  refine n_get C I fX12_102_X12 eX12_digestTree_119 (hN 49 (by decide)) hC5.obj rfl ?_
  refine v_iconst (v := (0 : Int32)) C eX12_digestTree_122 (by decide) ?_
  refine v_iload C eX12_digestTree_123 4 rfl ?_
  refine n_callV (As := [.ref (ad 35), .int (nI 0), .int (nI mm)]) (rest := []) C I mX12_236 (rt_give I hN hT5' hk (ko := 35) (no := 64) rfl (by decide) 0 mm (by show mm ≤ 64; exact hm64) (by omega)) (hN 49 (by decide)) hC5.obj rfl (by decide) (by decide) ⟨by decide, by decide⟩ rfl (vi_c (rfl : nI mm = nI mm) (vi_c (rfl : (0 : Int32) = nI 0) (vi_k rfl))) (Nat.le_of_ble_eq_true rfl) eX12_digestTree_125 (fun r σ6 hp => ?_)
  obtain ⟨rfl, hC6, hk6, hv6⟩ := hp
  refine n_vret C rfl eX12_digestTree_128 ⟨rfl, hC6, fun k hk => (hk6 k (by omega)).trans (kk5 k (by omega)), ?_⟩
  rw [hv6, bt_same (kk5 35 (by decide))]; rfl

set_option maxRecDepth 100000 in
set_option maxHeartbeats 4000000 in
theorem rs_digestTree1 (I : nI1 ad N) (hN : ∀ k, k < 74 → k < N) (hC : RS G ad θ x σ) {nn tt aa th hh : Nat} (h41 : x 41 = nI nn) (h42 : x 42 = nI th) (h44 : x 44 = nI hh) (h45 : x 45 = nI aa) (h46 : x 46 = nI tt) (hht : hh ≤ th) (hb1 : tt * aa < 2 ^ 20) (hb2 : th < 2 ^ 20) (hnn : nn = 16) (h48 : x 48 = 0) {mm : Nat} (hmm : (tt * aa + 7) / 8 + (th - hh + 7) / 8 + (hh + 7) / 8 = mm) (hm64 : mm ≤ 64) (hw : Bool) {l3 l4 : Nat} (h3 : bt σ 2 3 = nI l3) (h4 : bt σ 2 4 = nI l4) (hl3 : l3 ≤ 65536) (hl4 : l4 ≤ 65536) {kx nx : Nat} (hkx : rLn kx = nx) (hx0 : 0 < nx) (hf : kx ≠ 26 ∧ kx ≠ 25) (a : Nat) (ha : a + nn ≤ nx) (hnr : nrw (sl (bt σ kx) a nn)) (hnp : nrw (sl (bt σ 37) 0 nn)) : nOk G B l ad N yX12_digestTree cX12_digestTree 6 none 7 0 0 [.ref (ad 49), .ref (ad kx), .int (nI a), .int (howI hw)] σ (fun r σ' => r = none ∧ RS G ad θ x σ' ∧ (∀ k, ¬ (13 ≤ k ∧ k ≤ 17 ∨ k = 49 ∨ k = 23 ∨ k = 25 ∨ k = 26 ∨ k = 35) → σ' k = σ k) ∧ bt σ' 35 = wr (bt σ 35) 0 (dtL θ false nn mm (sl (bt σ kx) a nn) (sl (bt σ 37) 0 nn) (sl (bt σ 40) 0 nn) (sgM hw (sl (bt σ 54) 0 l4) (sl (bt σ 53) 0 l3)))) := by
  refine vOk.of (by decide +kernel) (Nat.le_of_ble_eq_true rfl) ?_
  intro p e s m args below meth c C
  refine v_eq (lv' := [(0, .ref (ad 49)), (1, .ref (ad kx)), (2, .int (nI a)), (3, .int (howI hw))]) rfl rfl rfl ?_
  have hxh := rLn_h (k := kx) (by omega)
  have hk : 1 = 1 ∨ 1 = 3 ∨ 1 = 12 := by decide
  refine v_aload_n C eX12_digestTree_0 rfl 0 rfl ?_
  refine n_get C I fX12_255_X12 eX12_digestTree_1 (hN 49 (by decide)) hC.obj rfl ?_
  refine v_aload_n C eX12_digestTree_4 rfl 0 rfl ?_
  refine n_get C I fX12_252_X12 eX12_digestTree_5 (hN 49 (by decide)) hC.obj rfl ?_
  refine v_imul C eX12_digestTree_8 ?_
  refine v_bipush (v := (7 : Int32)) C eX12_digestTree_9 (by decide) ?_
  refine v_iadd C eX12_digestTree_11 ?_
  refine v_bipush (v := (8 : Int32)) C eX12_digestTree_12 (by decide) ?_
  refine v_idiv C eX12_digestTree_14 (by decide) ?_
  refine v_aload_n C eX12_digestTree_15 rfl 0 rfl ?_
  refine n_get C I fX12_246_X12 eX12_digestTree_16 (hN 49 (by decide)) hC.obj rfl ?_
  refine v_aload_n C eX12_digestTree_19 rfl 0 rfl ?_
  refine n_get C I fX12_258_X12 eX12_digestTree_20 (hN 49 (by decide)) hC.obj rfl ?_
  refine v_isub C eX12_digestTree_23 ?_
  refine v_bipush (v := (7 : Int32)) C eX12_digestTree_24 (by decide) ?_
  refine v_iadd C eX12_digestTree_26 ?_
  refine v_bipush (v := (8 : Int32)) C eX12_digestTree_27 (by decide) ?_
  refine v_idiv C eX12_digestTree_29 (by decide) ?_
  refine v_iadd C eX12_digestTree_30 ?_
  refine v_aload_n C eX12_digestTree_31 rfl 0 rfl ?_
  refine n_get C I fX12_258_X12 eX12_digestTree_32 (hN 49 (by decide)) hC.obj rfl ?_
  refine v_bipush (v := (7 : Int32)) C eX12_digestTree_35 (by decide) ?_
  refine v_iadd C eX12_digestTree_37 ?_
  refine v_bipush (v := (8 : Int32)) C eX12_digestTree_38 (by decide) ?_
  refine v_idiv C eX12_digestTree_40 (by decide) ?_
  refine v_iadd C eX12_digestTree_41 ?_
  refine v_natT (show ((((((ox σ) 46) * ((ox σ) 45)) + ((7 : Int32))) / ((8 : Int32))) + (((((ox σ) 42) - ((ox σ) 44)) + ((7 : Int32))) / ((8 : Int32)))) + ((((ox σ) 44) + ((7 : Int32))) / ((8 : Int32))) = nI mm from ((ix_add (a := (((tt * aa) + 7) / 8) + (((th - hh) + 7) / 8)) (b := (hh + 7) / 8) (ix_add (a := ((tt * aa) + 7) / 8) (b := ((th - hh) + 7) / 8) (ix_div (a := (tt * aa) + 7) (d := 8) (ix_add (a := tt * aa) (b := 7) (ix_mul (a := tt) (b := aa) (hC.i46.trans h46) (hC.i45.trans h45)) (rfl : (7 : Int32) = nI 7)) (rfl : (8 : Int32) = nI 8) (by omega) (by omega) (by omega)) (ix_div (a := (th - hh) + 7) (d := 8) (ix_add (a := th - hh) (b := 7) (ix_sub (a := th) (b := hh) (hC.i42.trans h42) (hC.i44.trans h44) (by omega)) (rfl : (7 : Int32) = nI 7)) (rfl : (8 : Int32) = nI 8) (by omega) (by omega) (by omega))) (ix_div (a := hh + 7) (d := 8) (ix_add (a := hh) (b := 7) (hC.i44.trans h44) (rfl : (7 : Int32) = nI 7)) (rfl : (8 : Int32) = nI 8) (by omega) (by omega) (by omega)))).trans (congrArg nI hmm)) ?_
  refine v_istore (lv' := [(0, .ref (ad 49)), (1, .ref (ad kx)), (2, .int (nI a)), (3, .int (howI hw)), (4, .int (nI mm))]) C eX12_digestTree_42 (by decide) [1, 2, 3, 4, 0] rfl ?_
  refine v_aload_n C eX12_digestTree_44 rfl 0 rfl ?_
  refine v_iload_n C eX12_digestTree_45 rfl 3 rfl ?_
  refine n_callV (As := [.int (howI hw)]) (rest := []) C I mX12_305 (rs_before I hN hw) (hN 49 (by decide)) hC.obj rfl (by decide) (by decide) ⟨by decide, by decide⟩ rfl (vi_k rfl) (Nat.le_of_ble_eq_true rfl) eX12_digestTree_46 (fun r ρ hp => ?_)
  obtain ⟨rfl, hρ⟩ := hp
  rw [hρ]
  clear hρ ρ
  refine v_aload_n C eX12_digestTree_49 rfl 0 rfl ?_
  refine v_aload_n C eX12_digestTree_50 rfl 0 rfl ?_
  refine n_get C I fX12_264_X12 eX12_digestTree_51 (hN 49 (by decide)) hC.obj rfl ?_
  refine v_if_eq (tgt := 62) C eX12_digestTree_54 (by decide) (fun _ => ?_) (fun h => absurd (hC.i48.trans h48) h)
  refine v_aload_n C eX12_digestTree_62 rfl 0 rfl ?_
  refine n_callV (As := []) (rest := [.ref (ad 49)]) C I mX12_308 (rs_large1 I hN hC h41 hnn) (hN 49 (by decide)) hC.obj rfl (by decide) (by decide) ⟨by decide, by decide⟩ rfl rfl (Nat.le_of_ble_eq_true rfl) eX12_digestTree_63 (fun r ρ hp => ?_)
  obtain ⟨rfl, hρ⟩ := hp
  rw [hρ]
  clear hρ ρ
  refine n_callV (As := [.int (nI 1)]) (rest := []) C I mX12_166 (rt_begin I hN hC hk) (hN 49 (by decide)) hC.obj rfl (by decide) (by decide) ⟨by decide, by decide⟩ rfl (vi_c (rfl : nI 1 = nI 1) rfl) (Nat.le_of_ble_eq_true rfl) eX12_digestTree_66 (fun r σ1 hp => ?_)
  obtain ⟨rfl, hT1, hk1⟩ := hp
  have hC1 := hT1.1
  refine v_aload_n C eX12_digestTree_69 rfl 0 rfl ?_
  refine v_aload_n C eX12_digestTree_70 rfl 1 rfl ?_
  refine v_iload_n C eX12_digestTree_71 rfl 2 rfl ?_
  refine v_aload_n C eX12_digestTree_72 rfl 0 rfl ?_
  refine n_get C I fX12_243_X12 eX12_digestTree_73 (hN 49 (by decide)) hC1.obj rfl ?_
  refine n_callV (As := [.ref (ad kx), .int (nI a), .int (nI nn)]) (rest := []) C I mX12_233 (rt_putA I hN hT1 hk hkx hx0 a nn ha) (hN 49 (by decide)) hC1.obj rfl (by decide) (by decide) ⟨by decide, by decide⟩ rfl (vi_c (hC1.i41.trans h41) (vi_c (rfl : nI a = nI a) (vi_k rfl))) (Nat.le_of_ble_eq_true rfl) eX12_digestTree_76 (fun r σ2 hp => ?_)
  obtain ⟨rfl, hT2, hk2⟩ := hp
  have hC2 := hT2.1
  refine v_aload_n C eX12_digestTree_79 rfl 0 rfl ?_
  refine v_aload_n C eX12_digestTree_80 rfl 0 rfl ?_
  refine n_get C I fX12_108_X12 eX12_digestTree_81 (hN 49 (by decide)) hC2.obj rfl ?_
  refine v_iconst (v := (0 : Int32)) C eX12_digestTree_84 (by decide) ?_
  refine v_aload_n C eX12_digestTree_85 rfl 0 rfl ?_
  refine n_get C I fX12_243_X12 eX12_digestTree_86 (hN 49 (by decide)) hC2.obj rfl ?_
  refine n_callV (As := [.ref (ad 37), .int (nI 0), .int (nI nn)]) (rest := []) C I mX12_233 (rt_putA I hN hT2 hk (kb := 37) (nb := 32) rfl (by decide) 0 nn (by omega)) (hN 49 (by decide)) hC2.obj rfl (by decide) (by decide) ⟨by decide, by decide⟩ rfl (vi_c (hC2.i41.trans h41) (vi_c (rfl : (0 : Int32) = nI 0) (vi_k rfl))) (Nat.le_of_ble_eq_true rfl) eX12_digestTree_89 (fun r σ3 hp => ?_)
  obtain ⟨rfl, hT3, hk3⟩ := hp
  have hC3 := hT3.1
  refine v_aload_n C eX12_digestTree_92 rfl 0 rfl ?_
  refine v_aload_n C eX12_digestTree_93 rfl 0 rfl ?_
  refine n_get C I fX12_117_X12 eX12_digestTree_94 (hN 49 (by decide)) hC3.obj rfl ?_
  refine v_iconst (v := (0 : Int32)) C eX12_digestTree_97 (by decide) ?_
  refine v_aload_n C eX12_digestTree_98 rfl 0 rfl ?_
  refine n_get C I fX12_243_X12 eX12_digestTree_99 (hN 49 (by decide)) hC3.obj rfl ?_
  refine n_callV (As := [.ref (ad 40), .int (nI 0), .int (nI nn)]) (rest := []) C I mX12_233 (rt_putA I hN hT3 hk (kb := 40) (nb := 32) rfl (by decide) 0 nn (by omega)) (hN 49 (by decide)) hC3.obj rfl (by decide) (by decide) ⟨by decide, by decide⟩ rfl (vi_c (hC3.i41.trans h41) (vi_c (rfl : (0 : Int32) = nI 0) (vi_k rfl))) (Nat.le_of_ble_eq_true rfl) eX12_digestTree_102 (fun r σ4 hp => ?_)
  obtain ⟨rfl, hT4, hk4⟩ := hp
  have hC4 := hT4.1
  refine v_aload_n C eX12_digestTree_105 rfl 0 rfl ?_
  refine v_iload_n C eX12_digestTree_106 rfl 3 rfl ?_
  have kk : ∀ j, ¬ (13 ≤ j ∧ j ≤ 17 ∨ j = 49) → σ4 j = σ j := fun j hj => (hk4 j hj).trans ((hk3 j hj).trans ((hk2 j hj).trans (hk1 j hj)))
  refine n_callV (As := [.int (howI hw)]) (rest := []) C I mX12_311 (rt_putSigned I hN hk hT4 hw (l3 := l3) (l4 := l4) (by rw [bt_same (kk 2 (by decide))]; exact h3) (by rw [bt_same (kk 2 (by decide))]; exact h4) hl3 hl4) (hN 49 (by decide)) hC4.obj rfl (by decide) (by decide) ⟨by decide, by decide⟩ rfl (vi_k rfl) (Nat.le_of_ble_eq_true rfl) eX12_digestTree_107 (fun r σ5 hp => ?_)
  obtain ⟨rfl, hT5, hk5⟩ := hp
  have hC5 := hT5.1
  have kk5 : ∀ j, ¬ (13 ≤ j ∧ j ≤ 17 ∨ j = 49) → σ5 j = σ j := fun j hj => (hk5 j hj).trans (kk j hj)
  have hT5' : RT G ad θ x 1 (sl (bt σ kx) a nn ++ sl (bt σ 37) 0 nn ++ sl (bt σ 40) 0 nn ++ sgM hw (sl (bt σ 54) 0 l4) (sl (bt σ 53) 0 l3)) σ5 := by
    rw [bt_same (kk 54 (by decide)), bt_same (kk 53 (by decide)), bt_same (hk1 kx hxh), bt_same (hk2 37 (by decide)), bt_same (hk1 37 (by decide)), bt_same (hk3 40 (by decide)), bt_same (hk2 40 (by decide)), bt_same (hk1 40 (by decide)), List.nil_append] at hT5; exact hT5
  refine v_aload_n C eX12_digestTree_110 rfl 0 rfl ?_
  refine n_get C I fX12_264_X12 eX12_digestTree_111 (hN 49 (by decide)) hC5.obj rfl ?_
  refine v_if_eq (tgt := 129) C eX12_digestTree_114 (by decide) (fun _ => ?_) (fun h => absurd (hC5.i48.trans h48) h)
  refine v_aload_n C eX12_digestTree_129 rfl 0 rfl ?_
  refine n_callV (As := []) (rest := []) C I mX12_308 (rs_large1 I hN hC5 h41 hnn) (hN 49 (by decide)) hC5.obj rfl (by decide) (by decide) ⟨by decide, by decide⟩ rfl rfl (Nat.le_of_ble_eq_true rfl) eX12_digestTree_130 (fun r ρ hp => ?_)
  obtain ⟨rfl, hρ⟩ := hp
  rw [hρ]
  clear hρ ρ
  refine n_callS (av := [.int (nI 1)]) (rest := []) C mX12_187 (c_digestOf1) rfl (by decide) (by decide) ⟨by decide, by decide⟩ rfl (vi_c (rfl : nI 1 = nI 1) rfl) (Nat.le_of_ble_eq_true rfl) eX12_digestTree_133 (fun r ρ hp => ?_)
  obtain ⟨rfl, hρ⟩ := hp
  rw [hρ]
  clear hρ ρ
  refine v_istore (lv' := [(0, .ref (ad 49)), (1, .ref (ad kx)), (2, .int (nI a)), (3, .int (howI hw)), (4, .int (nI mm)), (5, .int (nI 32))]) C eX12_digestTree_136 (by decide) [1, 2, 3, 4, 5, 0] rfl ?_
  refine v_aload_n C eX12_digestTree_138 rfl 0 rfl ?_
  refine v_aload_n C eX12_digestTree_139 rfl 0 rfl ?_
  refine n_get C I fX12_72_X12 eX12_digestTree_140 (hN 49 (by decide)) hC5.obj rfl ?_
  refine v_iconst (v := (0 : Int32)) C eX12_digestTree_143 (by decide) ?_
  refine v_iload C eX12_digestTree_144 5 rfl ?_
  refine n_callV (As := [.ref (ad 25), .int (nI 0), .int (nI 32)]) (rest := []) C I mX12_236 (rt_give I hN hT5' hk (ko := 25) (no := 64) rfl (by decide) 0 32 (by decide) (by decide)) (hN 49 (by decide)) hC5.obj rfl (by decide) (by decide) ⟨by decide, by decide⟩ rfl (vi_c (rfl : nI 32 = nI 32) (vi_c (rfl : (0 : Int32) = nI 0) (vi_k rfl))) (Nat.le_of_ble_eq_true rfl) eX12_digestTree_146 (fun r σ6 hp => ?_)
  obtain ⟨rfl, hC6, hk6, hv6⟩ := hp
  have kk6 : ∀ j, ¬ (13 ≤ j ∧ j ≤ 17 ∨ j = 49 ∨ j = 25) → σ6 j = σ j := fun j hj => (hk6 j hj).trans (kk5 j (by omega))
  refine v_aload_n C eX12_digestTree_149 rfl 1 rfl ?_
  refine v_iload_n C eX12_digestTree_150 rfl 2 rfl ?_
  refine v_aload_n C eX12_digestTree_151 rfl 0 rfl ?_
  refine n_get C I fX12_75_X12 eX12_digestTree_152 (hN 49 (by decide)) hC6.obj rfl ?_
  refine v_iconst (v := (0 : Int32)) C eX12_digestTree_155 (by decide) ?_
  refine v_aload_n C eX12_digestTree_156 rfl 0 rfl ?_
  refine n_get C I fX12_243_X12 eX12_digestTree_157 (hN 49 (by decide)) hC6.obj rfl ?_
  refine n_callS (av := [.ref (ad kx), .int (nI a), .ref (ad 26), .int (nI 0), .int (nI nn)]) (rest := []) C mX12_239 (rs_mv I hN hC6 (ko := 26) (no := 256) hkx hx0 rfl (by decide) hf.1 a 0 nn ha (by omega) (by rw [bt_same (kk6 kx (by omega))]; exact hnr)) rfl (by decide) (by decide) ⟨by decide, by decide⟩ rfl (vi_c (hC6.i41.trans h41) (vi_c (rfl : (0 : Int32) = nI 0) (vi_k (vi_c (rfl : nI a = nI a) (vi_k rfl))))) (Nat.le_of_ble_eq_true rfl) eX12_digestTree_160 (fun r σ7 hp => ?_)
  obtain ⟨rfl, hC7, hk7, hv7⟩ := hp
  refine v_aload_n C eX12_digestTree_163 rfl 0 rfl ?_
  refine n_get C I fX12_108_X12 eX12_digestTree_164 (hN 49 (by decide)) hC7.obj rfl ?_
  refine v_iconst (v := (0 : Int32)) C eX12_digestTree_167 (by decide) ?_
  refine v_aload_n C eX12_digestTree_168 rfl 0 rfl ?_
  refine n_get C I fX12_75_X12 eX12_digestTree_169 (hN 49 (by decide)) hC7.obj rfl ?_
  refine v_aload_n C eX12_digestTree_172 rfl 0 rfl ?_
  refine n_get C I fX12_243_X12 eX12_digestTree_173 (hN 49 (by decide)) hC7.obj rfl ?_
  refine v_aload_n C eX12_digestTree_176 rfl 0 rfl ?_
  refine n_get C I fX12_243_X12 eX12_digestTree_177 (hN 49 (by decide)) hC7.obj rfl ?_
  refine n_callS (av := [.ref (ad 37), .int (nI 0), .ref (ad 26), .int (nI nn), .int (nI nn)]) (rest := []) C mX12_239 (rs_mv I hN hC7 (kx := 37) (nx := 32) (ko := 26) (no := 256) rfl (by decide) rfl (by decide) (by decide) 0 nn nn (by omega) (by omega) (by rw [bt_same (hk7 37 (by decide)), bt_same (kk6 37 (by decide))]; exact hnp)) rfl (by decide) (by decide) ⟨by decide, by decide⟩ rfl (vi_c (hC7.i41.trans h41) (vi_c (hC7.i41.trans h41) (vi_k (vi_c (rfl : (0 : Int32) = nI 0) (vi_k rfl))))) (Nat.le_of_ble_eq_true rfl) eX12_digestTree_180 (fun r σ8 hp => ?_)
  obtain ⟨rfl, hC8, hk8, hv8⟩ := hp
  refine v_aload_n C eX12_digestTree_183 rfl 0 rfl ?_
  refine n_get C I fX12_72_X12 eX12_digestTree_184 (hN 49 (by decide)) hC8.obj rfl ?_
  refine v_iconst (v := (0 : Int32)) C eX12_digestTree_187 (by decide) ?_
  refine v_aload_n C eX12_digestTree_188 rfl 0 rfl ?_
  refine n_get C I fX12_75_X12 eX12_digestTree_189 (hN 49 (by decide)) hC8.obj rfl ?_
  refine v_iconst (v := (2 : Int32)) C eX12_digestTree_192 (by decide) ?_
  refine v_aload_n C eX12_digestTree_193 rfl 0 rfl ?_
  refine n_get C I fX12_243_X12 eX12_digestTree_194 (hN 49 (by decide)) hC8.obj rfl ?_
  refine v_imul C eX12_digestTree_197 ?_
  refine v_iload C eX12_digestTree_198 5 rfl ?_
  refine n_callS (av := [.ref (ad 25), .int (nI 0), .ref (ad 26), .int (nI (2 * nn)), .int (nI 32)]) (rest := []) C mX12_239 (rs_mv I hN hC8 (kx := 25) (nx := 64) (ko := 26) (no := 256) rfl (by decide) rfl (by decide) (by decide) 0 (2 * nn) 32 (by omega) (by omega) (by rw [bt_same (hk8 25 (by decide)), bt_same (hk7 25 (by decide)), hv6, sl_wr' dgL_len]; exact nrw_dgL)) rfl (by decide) (by decide) ⟨by decide, by decide⟩ rfl (vi_c (rfl : nI 32 = nI 32) (vi_c (ix_mul (a := 2) (b := nn) (rfl : (2 : Int32) = nI 2) (hC8.i41.trans h41)) (vi_k (vi_c (rfl : (0 : Int32) = nI 0) (vi_k rfl))))) (Nat.le_of_ble_eq_true rfl) eX12_digestTree_200 (fun r σ9 hp => ?_)
  obtain ⟨rfl, hC9, hk9, hv9⟩ := hp
  have hbuf : sl (bt σ9 26) 0 (2 * nn + 32) = sl (bt σ kx) a nn ++ sl (bt σ 37) 0 nn ++ dgL θ 1 32 (sl (bt σ kx) a nn ++ sl (bt σ 37) 0 nn ++ sl (bt σ 40) 0 nn ++ sgM hw (sl (bt σ 54) 0 l4) (sl (bt σ 53) 0 l3)) := by
    rw [hv9, hv8, hv7, bt_same (hk8 25 (by decide)), bt_same (hk7 25 (by decide)), hv6, sl_wr' dgL_len, bt_same (hk7 37 (by decide)), bt_same (kk6 37 (by decide)), bt_same (kk6 kx (by omega)), wr_app (by rw [sl_len]; omega), wr_app (by rw [sl_len]; omega), ← List.append_assoc, sl_wr' (by rw [List.length_append, List.length_append, sl_len, sl_len, dgL_len]; omega)]
  refine v_aload_n C eX12_digestTree_203 rfl 0 rfl ?_
  refine v_aload_n C eX12_digestTree_204 rfl 0 rfl ?_
  refine n_callV (As := []) (rest := [.ref (ad 49)]) C I mX12_308 (rs_large1 I hN hC9 h41 hnn) (hN 49 (by decide)) hC9.obj rfl (by decide) (by decide) ⟨by decide, by decide⟩ rfl rfl (Nat.le_of_ble_eq_true rfl) eX12_digestTree_205 (fun r ρ hp => ?_)
  obtain ⟨rfl, hρ⟩ := hp
  rw [hρ]
  clear hρ ρ
  refine v_aload_n C eX12_digestTree_208 rfl 0 rfl ?_
  refine n_get C I fX12_75_X12 eX12_digestTree_209 (hN 49 (by decide)) hC9.obj rfl ?_
  refine v_iconst (v := (2 : Int32)) C eX12_digestTree_212 (by decide) ?_
  refine v_aload_n C eX12_digestTree_213 rfl 0 rfl ?_
  refine n_get C I fX12_243_X12 eX12_digestTree_214 (hN 49 (by decide)) hC9.obj rfl ?_
  refine v_imul C eX12_digestTree_217 ?_
  refine v_iload C eX12_digestTree_218 5 rfl ?_
  refine v_iadd C eX12_digestTree_220 ?_
  refine v_aload_n C eX12_digestTree_221 rfl 0 rfl ?_
  refine n_get C I fX12_102_X12 eX12_digestTree_222 (hN 49 (by decide)) hC9.obj rfl ?_
  refine v_iconst (v := (0 : Int32)) C eX12_digestTree_225 (by decide) ?_
  refine v_iload C eX12_digestTree_226 4 rfl ?_
  refine n_callV (As := [.int (nI 1), .ref (ad 26), .int (nI ((2 * nn) + 32)), .ref (ad 35), .int (nI 0), .int (nI mm)]) (rest := []) C I mX12_314 (rs_mask1 I hN hC9 (kx := 26) (nx := 256) (ko := 35) (no := 64) rfl (by decide) rfl (by decide) (by decide) (2 * nn + 32) 0 mm (by omega) hm64 (by omega)) (hN 49 (by decide)) hC9.obj rfl (by decide) (by decide) ⟨by decide, by decide⟩ rfl (vi_c (rfl : nI mm = nI mm) (vi_c (rfl : (0 : Int32) = nI 0) (vi_k (vi_c (ix_add (a := 2 * nn) (b := 32) (ix_mul (a := 2) (b := nn) (rfl : (2 : Int32) = nI 2) (hC9.i41.trans h41)) (rfl : nI 32 = nI 32)) (vi_k (vi_c (rfl : nI 1 = nI 1) rfl)))))) (Nat.le_of_ble_eq_true rfl) eX12_digestTree_228 (fun r σA hp => ?_)
  obtain ⟨rfl, hCA, hkA, hvA⟩ := hp
  have kk9 : ∀ j, ¬ (13 ≤ j ∧ j ≤ 17 ∨ j = 49 ∨ j = 25 ∨ j = 26) → σ9 j = σ j := fun j hj => (hk9 j (by omega)).trans ((hk8 j (by omega)).trans ((hk7 j (by omega)).trans (kk6 j (by omega))))
  refine n_vret C rfl eX12_digestTree_231 ⟨rfl, hCA, fun k hk => (hkA k (by omega)).trans (kk9 k (by omega)), ?_⟩
  rw [hvA, hbuf, bt_same (kk9 35 (by decide))]
  subst hnn; rfl

set_option maxRecDepth 100000 in
set_option maxHeartbeats 4000000 in
theorem rs_digestTree3 (I : nI1 ad N) (hN : ∀ k, k < 74 → k < N) (hC : RS G ad θ x σ) {nn tt aa th hh : Nat} (h41 : x 41 = nI nn) (h42 : x 42 = nI th) (h44 : x 44 = nI hh) (h45 : x 45 = nI aa) (h46 : x 46 = nI tt) (hht : hh ≤ th) (hb1 : tt * aa < 2 ^ 20) (hb2 : th < 2 ^ 20) (hnn : nn = 24 ∨ nn = 32) (h48 : x 48 = 0) {mm : Nat} (hmm : (tt * aa + 7) / 8 + (th - hh + 7) / 8 + (hh + 7) / 8 = mm) (hm64 : mm ≤ 64) (hw : Bool) {l3 l4 : Nat} (h3 : bt σ 2 3 = nI l3) (h4 : bt σ 2 4 = nI l4) (hl3 : l3 ≤ 65536) (hl4 : l4 ≤ 65536) {kx nx : Nat} (hkx : rLn kx = nx) (hx0 : 0 < nx) (hf : kx ≠ 26 ∧ kx ≠ 25) (a : Nat) (ha : a + nn ≤ nx) (hnr : nrw (sl (bt σ kx) a nn)) (hnp : nrw (sl (bt σ 37) 0 nn)) : nOk G B l ad N yX12_digestTree cX12_digestTree 6 none 7 0 0 [.ref (ad 49), .ref (ad kx), .int (nI a), .int (howI hw)] σ (fun r σ' => r = none ∧ RS G ad θ x σ' ∧ (∀ k, ¬ (13 ≤ k ∧ k ≤ 17 ∨ k = 49 ∨ k = 23 ∨ k = 25 ∨ k = 26 ∨ k = 35) → σ' k = σ k) ∧ bt σ' 35 = wr (bt σ 35) 0 (dtL θ false nn mm (sl (bt σ kx) a nn) (sl (bt σ 37) 0 nn) (sl (bt σ 40) 0 nn) (sgM hw (sl (bt σ 54) 0 l4) (sl (bt σ 53) 0 l3)))) := by
  refine vOk.of (by decide +kernel) (Nat.le_of_ble_eq_true rfl) ?_
  intro p e s m args below meth c C
  refine v_eq (lv' := [(0, .ref (ad 49)), (1, .ref (ad kx)), (2, .int (nI a)), (3, .int (howI hw))]) rfl rfl rfl ?_
  have hxh := rLn_h (k := kx) (by omega)
  have hk : 3 = 1 ∨ 3 = 3 ∨ 3 = 12 := by decide
  refine v_aload_n C eX12_digestTree_0 rfl 0 rfl ?_
  refine n_get C I fX12_255_X12 eX12_digestTree_1 (hN 49 (by decide)) hC.obj rfl ?_
  refine v_aload_n C eX12_digestTree_4 rfl 0 rfl ?_
  refine n_get C I fX12_252_X12 eX12_digestTree_5 (hN 49 (by decide)) hC.obj rfl ?_
  refine v_imul C eX12_digestTree_8 ?_
  refine v_bipush (v := (7 : Int32)) C eX12_digestTree_9 (by decide) ?_
  refine v_iadd C eX12_digestTree_11 ?_
  refine v_bipush (v := (8 : Int32)) C eX12_digestTree_12 (by decide) ?_
  refine v_idiv C eX12_digestTree_14 (by decide) ?_
  refine v_aload_n C eX12_digestTree_15 rfl 0 rfl ?_
  refine n_get C I fX12_246_X12 eX12_digestTree_16 (hN 49 (by decide)) hC.obj rfl ?_
  refine v_aload_n C eX12_digestTree_19 rfl 0 rfl ?_
  refine n_get C I fX12_258_X12 eX12_digestTree_20 (hN 49 (by decide)) hC.obj rfl ?_
  refine v_isub C eX12_digestTree_23 ?_
  refine v_bipush (v := (7 : Int32)) C eX12_digestTree_24 (by decide) ?_
  refine v_iadd C eX12_digestTree_26 ?_
  refine v_bipush (v := (8 : Int32)) C eX12_digestTree_27 (by decide) ?_
  refine v_idiv C eX12_digestTree_29 (by decide) ?_
  refine v_iadd C eX12_digestTree_30 ?_
  refine v_aload_n C eX12_digestTree_31 rfl 0 rfl ?_
  refine n_get C I fX12_258_X12 eX12_digestTree_32 (hN 49 (by decide)) hC.obj rfl ?_
  refine v_bipush (v := (7 : Int32)) C eX12_digestTree_35 (by decide) ?_
  refine v_iadd C eX12_digestTree_37 ?_
  refine v_bipush (v := (8 : Int32)) C eX12_digestTree_38 (by decide) ?_
  refine v_idiv C eX12_digestTree_40 (by decide) ?_
  refine v_iadd C eX12_digestTree_41 ?_
  refine v_natT (show ((((((ox σ) 46) * ((ox σ) 45)) + ((7 : Int32))) / ((8 : Int32))) + (((((ox σ) 42) - ((ox σ) 44)) + ((7 : Int32))) / ((8 : Int32)))) + ((((ox σ) 44) + ((7 : Int32))) / ((8 : Int32))) = nI mm from ((ix_add (a := (((tt * aa) + 7) / 8) + (((th - hh) + 7) / 8)) (b := (hh + 7) / 8) (ix_add (a := ((tt * aa) + 7) / 8) (b := ((th - hh) + 7) / 8) (ix_div (a := (tt * aa) + 7) (d := 8) (ix_add (a := tt * aa) (b := 7) (ix_mul (a := tt) (b := aa) (hC.i46.trans h46) (hC.i45.trans h45)) (rfl : (7 : Int32) = nI 7)) (rfl : (8 : Int32) = nI 8) (by omega) (by omega) (by omega)) (ix_div (a := (th - hh) + 7) (d := 8) (ix_add (a := th - hh) (b := 7) (ix_sub (a := th) (b := hh) (hC.i42.trans h42) (hC.i44.trans h44) (by omega)) (rfl : (7 : Int32) = nI 7)) (rfl : (8 : Int32) = nI 8) (by omega) (by omega) (by omega))) (ix_div (a := hh + 7) (d := 8) (ix_add (a := hh) (b := 7) (hC.i44.trans h44) (rfl : (7 : Int32) = nI 7)) (rfl : (8 : Int32) = nI 8) (by omega) (by omega) (by omega)))).trans (congrArg nI hmm)) ?_
  refine v_istore (lv' := [(0, .ref (ad 49)), (1, .ref (ad kx)), (2, .int (nI a)), (3, .int (howI hw)), (4, .int (nI mm))]) C eX12_digestTree_42 (by decide) [1, 2, 3, 4, 0] rfl ?_
  refine v_aload_n C eX12_digestTree_44 rfl 0 rfl ?_
  refine v_iload_n C eX12_digestTree_45 rfl 3 rfl ?_
  refine n_callV (As := [.int (howI hw)]) (rest := []) C I mX12_305 (rs_before I hN hw) (hN 49 (by decide)) hC.obj rfl (by decide) (by decide) ⟨by decide, by decide⟩ rfl (vi_k rfl) (Nat.le_of_ble_eq_true rfl) eX12_digestTree_46 (fun r ρ hp => ?_)
  obtain ⟨rfl, hρ⟩ := hp
  rw [hρ]
  clear hρ ρ
  refine v_aload_n C eX12_digestTree_49 rfl 0 rfl ?_
  refine v_aload_n C eX12_digestTree_50 rfl 0 rfl ?_
  refine n_get C I fX12_264_X12 eX12_digestTree_51 (hN 49 (by decide)) hC.obj rfl ?_
  refine v_if_eq (tgt := 62) C eX12_digestTree_54 (by decide) (fun _ => ?_) (fun h => absurd (hC.i48.trans h48) h)
  refine v_aload_n C eX12_digestTree_62 rfl 0 rfl ?_
  refine n_callV (As := []) (rest := [.ref (ad 49)]) C I mX12_308 (rs_large3 I hN hC h41 hnn) (hN 49 (by decide)) hC.obj rfl (by decide) (by decide) ⟨by decide, by decide⟩ rfl rfl (Nat.le_of_ble_eq_true rfl) eX12_digestTree_63 (fun r ρ hp => ?_)
  obtain ⟨rfl, hρ⟩ := hp
  rw [hρ]
  clear hρ ρ
  refine n_callV (As := [.int (nI 3)]) (rest := []) C I mX12_166 (rt_begin I hN hC hk) (hN 49 (by decide)) hC.obj rfl (by decide) (by decide) ⟨by decide, by decide⟩ rfl (vi_c (rfl : nI 3 = nI 3) rfl) (Nat.le_of_ble_eq_true rfl) eX12_digestTree_66 (fun r σ1 hp => ?_)
  obtain ⟨rfl, hT1, hk1⟩ := hp
  have hC1 := hT1.1
  refine v_aload_n C eX12_digestTree_69 rfl 0 rfl ?_
  refine v_aload_n C eX12_digestTree_70 rfl 1 rfl ?_
  refine v_iload_n C eX12_digestTree_71 rfl 2 rfl ?_
  refine v_aload_n C eX12_digestTree_72 rfl 0 rfl ?_
  refine n_get C I fX12_243_X12 eX12_digestTree_73 (hN 49 (by decide)) hC1.obj rfl ?_
  refine n_callV (As := [.ref (ad kx), .int (nI a), .int (nI nn)]) (rest := []) C I mX12_233 (rt_putA I hN hT1 hk hkx hx0 a nn ha) (hN 49 (by decide)) hC1.obj rfl (by decide) (by decide) ⟨by decide, by decide⟩ rfl (vi_c (hC1.i41.trans h41) (vi_c (rfl : nI a = nI a) (vi_k rfl))) (Nat.le_of_ble_eq_true rfl) eX12_digestTree_76 (fun r σ2 hp => ?_)
  obtain ⟨rfl, hT2, hk2⟩ := hp
  have hC2 := hT2.1
  refine v_aload_n C eX12_digestTree_79 rfl 0 rfl ?_
  refine v_aload_n C eX12_digestTree_80 rfl 0 rfl ?_
  refine n_get C I fX12_108_X12 eX12_digestTree_81 (hN 49 (by decide)) hC2.obj rfl ?_
  refine v_iconst (v := (0 : Int32)) C eX12_digestTree_84 (by decide) ?_
  refine v_aload_n C eX12_digestTree_85 rfl 0 rfl ?_
  refine n_get C I fX12_243_X12 eX12_digestTree_86 (hN 49 (by decide)) hC2.obj rfl ?_
  refine n_callV (As := [.ref (ad 37), .int (nI 0), .int (nI nn)]) (rest := []) C I mX12_233 (rt_putA I hN hT2 hk (kb := 37) (nb := 32) rfl (by decide) 0 nn (by omega)) (hN 49 (by decide)) hC2.obj rfl (by decide) (by decide) ⟨by decide, by decide⟩ rfl (vi_c (hC2.i41.trans h41) (vi_c (rfl : (0 : Int32) = nI 0) (vi_k rfl))) (Nat.le_of_ble_eq_true rfl) eX12_digestTree_89 (fun r σ3 hp => ?_)
  obtain ⟨rfl, hT3, hk3⟩ := hp
  have hC3 := hT3.1
  refine v_aload_n C eX12_digestTree_92 rfl 0 rfl ?_
  refine v_aload_n C eX12_digestTree_93 rfl 0 rfl ?_
  refine n_get C I fX12_117_X12 eX12_digestTree_94 (hN 49 (by decide)) hC3.obj rfl ?_
  refine v_iconst (v := (0 : Int32)) C eX12_digestTree_97 (by decide) ?_
  refine v_aload_n C eX12_digestTree_98 rfl 0 rfl ?_
  refine n_get C I fX12_243_X12 eX12_digestTree_99 (hN 49 (by decide)) hC3.obj rfl ?_
  refine n_callV (As := [.ref (ad 40), .int (nI 0), .int (nI nn)]) (rest := []) C I mX12_233 (rt_putA I hN hT3 hk (kb := 40) (nb := 32) rfl (by decide) 0 nn (by omega)) (hN 49 (by decide)) hC3.obj rfl (by decide) (by decide) ⟨by decide, by decide⟩ rfl (vi_c (hC3.i41.trans h41) (vi_c (rfl : (0 : Int32) = nI 0) (vi_k rfl))) (Nat.le_of_ble_eq_true rfl) eX12_digestTree_102 (fun r σ4 hp => ?_)
  obtain ⟨rfl, hT4, hk4⟩ := hp
  have hC4 := hT4.1
  refine v_aload_n C eX12_digestTree_105 rfl 0 rfl ?_
  refine v_iload_n C eX12_digestTree_106 rfl 3 rfl ?_
  have kk : ∀ j, ¬ (13 ≤ j ∧ j ≤ 17 ∨ j = 49) → σ4 j = σ j := fun j hj => (hk4 j hj).trans ((hk3 j hj).trans ((hk2 j hj).trans (hk1 j hj)))
  refine n_callV (As := [.int (howI hw)]) (rest := []) C I mX12_311 (rt_putSigned I hN hk hT4 hw (l3 := l3) (l4 := l4) (by rw [bt_same (kk 2 (by decide))]; exact h3) (by rw [bt_same (kk 2 (by decide))]; exact h4) hl3 hl4) (hN 49 (by decide)) hC4.obj rfl (by decide) (by decide) ⟨by decide, by decide⟩ rfl (vi_k rfl) (Nat.le_of_ble_eq_true rfl) eX12_digestTree_107 (fun r σ5 hp => ?_)
  obtain ⟨rfl, hT5, hk5⟩ := hp
  have hC5 := hT5.1
  have kk5 : ∀ j, ¬ (13 ≤ j ∧ j ≤ 17 ∨ j = 49) → σ5 j = σ j := fun j hj => (hk5 j hj).trans (kk j hj)
  have hT5' : RT G ad θ x 3 (sl (bt σ kx) a nn ++ sl (bt σ 37) 0 nn ++ sl (bt σ 40) 0 nn ++ sgM hw (sl (bt σ 54) 0 l4) (sl (bt σ 53) 0 l3)) σ5 := by
    rw [bt_same (kk 54 (by decide)), bt_same (kk 53 (by decide)), bt_same (hk1 kx hxh), bt_same (hk2 37 (by decide)), bt_same (hk1 37 (by decide)), bt_same (hk3 40 (by decide)), bt_same (hk2 40 (by decide)), bt_same (hk1 40 (by decide)), List.nil_append] at hT5; exact hT5
  refine v_aload_n C eX12_digestTree_110 rfl 0 rfl ?_
  refine n_get C I fX12_264_X12 eX12_digestTree_111 (hN 49 (by decide)) hC5.obj rfl ?_
  refine v_if_eq (tgt := 129) C eX12_digestTree_114 (by decide) (fun _ => ?_) (fun h => absurd (hC5.i48.trans h48) h)
  refine v_aload_n C eX12_digestTree_129 rfl 0 rfl ?_
  refine n_callV (As := []) (rest := []) C I mX12_308 (rs_large3 I hN hC5 h41 hnn) (hN 49 (by decide)) hC5.obj rfl (by decide) (by decide) ⟨by decide, by decide⟩ rfl rfl (Nat.le_of_ble_eq_true rfl) eX12_digestTree_130 (fun r ρ hp => ?_)
  obtain ⟨rfl, hρ⟩ := hp
  rw [hρ]
  clear hρ ρ
  refine n_callS (av := [.int (nI 3)]) (rest := []) C mX12_187 (c_digestOf3) rfl (by decide) (by decide) ⟨by decide, by decide⟩ rfl (vi_c (rfl : nI 3 = nI 3) rfl) (Nat.le_of_ble_eq_true rfl) eX12_digestTree_133 (fun r ρ hp => ?_)
  obtain ⟨rfl, hρ⟩ := hp
  rw [hρ]
  clear hρ ρ
  refine v_istore (lv' := [(0, .ref (ad 49)), (1, .ref (ad kx)), (2, .int (nI a)), (3, .int (howI hw)), (4, .int (nI mm)), (5, .int (nI 64))]) C eX12_digestTree_136 (by decide) [1, 2, 3, 4, 5, 0] rfl ?_
  refine v_aload_n C eX12_digestTree_138 rfl 0 rfl ?_
  refine v_aload_n C eX12_digestTree_139 rfl 0 rfl ?_
  refine n_get C I fX12_72_X12 eX12_digestTree_140 (hN 49 (by decide)) hC5.obj rfl ?_
  refine v_iconst (v := (0 : Int32)) C eX12_digestTree_143 (by decide) ?_
  refine v_iload C eX12_digestTree_144 5 rfl ?_
  refine n_callV (As := [.ref (ad 25), .int (nI 0), .int (nI 64)]) (rest := []) C I mX12_236 (rt_give I hN hT5' hk (ko := 25) (no := 64) rfl (by decide) 0 64 (by decide) (by decide)) (hN 49 (by decide)) hC5.obj rfl (by decide) (by decide) ⟨by decide, by decide⟩ rfl (vi_c (rfl : nI 64 = nI 64) (vi_c (rfl : (0 : Int32) = nI 0) (vi_k rfl))) (Nat.le_of_ble_eq_true rfl) eX12_digestTree_146 (fun r σ6 hp => ?_)
  obtain ⟨rfl, hC6, hk6, hv6⟩ := hp
  have kk6 : ∀ j, ¬ (13 ≤ j ∧ j ≤ 17 ∨ j = 49 ∨ j = 25) → σ6 j = σ j := fun j hj => (hk6 j hj).trans (kk5 j (by omega))
  refine v_aload_n C eX12_digestTree_149 rfl 1 rfl ?_
  refine v_iload_n C eX12_digestTree_150 rfl 2 rfl ?_
  refine v_aload_n C eX12_digestTree_151 rfl 0 rfl ?_
  refine n_get C I fX12_75_X12 eX12_digestTree_152 (hN 49 (by decide)) hC6.obj rfl ?_
  refine v_iconst (v := (0 : Int32)) C eX12_digestTree_155 (by decide) ?_
  refine v_aload_n C eX12_digestTree_156 rfl 0 rfl ?_
  refine n_get C I fX12_243_X12 eX12_digestTree_157 (hN 49 (by decide)) hC6.obj rfl ?_
  refine n_callS (av := [.ref (ad kx), .int (nI a), .ref (ad 26), .int (nI 0), .int (nI nn)]) (rest := []) C mX12_239 (rs_mv I hN hC6 (ko := 26) (no := 256) hkx hx0 rfl (by decide) hf.1 a 0 nn ha (by omega) (by rw [bt_same (kk6 kx (by omega))]; exact hnr)) rfl (by decide) (by decide) ⟨by decide, by decide⟩ rfl (vi_c (hC6.i41.trans h41) (vi_c (rfl : (0 : Int32) = nI 0) (vi_k (vi_c (rfl : nI a = nI a) (vi_k rfl))))) (Nat.le_of_ble_eq_true rfl) eX12_digestTree_160 (fun r σ7 hp => ?_)
  obtain ⟨rfl, hC7, hk7, hv7⟩ := hp
  refine v_aload_n C eX12_digestTree_163 rfl 0 rfl ?_
  refine n_get C I fX12_108_X12 eX12_digestTree_164 (hN 49 (by decide)) hC7.obj rfl ?_
  refine v_iconst (v := (0 : Int32)) C eX12_digestTree_167 (by decide) ?_
  refine v_aload_n C eX12_digestTree_168 rfl 0 rfl ?_
  refine n_get C I fX12_75_X12 eX12_digestTree_169 (hN 49 (by decide)) hC7.obj rfl ?_
  refine v_aload_n C eX12_digestTree_172 rfl 0 rfl ?_
  refine n_get C I fX12_243_X12 eX12_digestTree_173 (hN 49 (by decide)) hC7.obj rfl ?_
  refine v_aload_n C eX12_digestTree_176 rfl 0 rfl ?_
  refine n_get C I fX12_243_X12 eX12_digestTree_177 (hN 49 (by decide)) hC7.obj rfl ?_
  refine n_callS (av := [.ref (ad 37), .int (nI 0), .ref (ad 26), .int (nI nn), .int (nI nn)]) (rest := []) C mX12_239 (rs_mv I hN hC7 (kx := 37) (nx := 32) (ko := 26) (no := 256) rfl (by decide) rfl (by decide) (by decide) 0 nn nn (by omega) (by omega) (by rw [bt_same (hk7 37 (by decide)), bt_same (kk6 37 (by decide))]; exact hnp)) rfl (by decide) (by decide) ⟨by decide, by decide⟩ rfl (vi_c (hC7.i41.trans h41) (vi_c (hC7.i41.trans h41) (vi_k (vi_c (rfl : (0 : Int32) = nI 0) (vi_k rfl))))) (Nat.le_of_ble_eq_true rfl) eX12_digestTree_180 (fun r σ8 hp => ?_)
  obtain ⟨rfl, hC8, hk8, hv8⟩ := hp
  refine v_aload_n C eX12_digestTree_183 rfl 0 rfl ?_
  refine n_get C I fX12_72_X12 eX12_digestTree_184 (hN 49 (by decide)) hC8.obj rfl ?_
  refine v_iconst (v := (0 : Int32)) C eX12_digestTree_187 (by decide) ?_
  refine v_aload_n C eX12_digestTree_188 rfl 0 rfl ?_
  refine n_get C I fX12_75_X12 eX12_digestTree_189 (hN 49 (by decide)) hC8.obj rfl ?_
  refine v_iconst (v := (2 : Int32)) C eX12_digestTree_192 (by decide) ?_
  refine v_aload_n C eX12_digestTree_193 rfl 0 rfl ?_
  refine n_get C I fX12_243_X12 eX12_digestTree_194 (hN 49 (by decide)) hC8.obj rfl ?_
  refine v_imul C eX12_digestTree_197 ?_
  refine v_iload C eX12_digestTree_198 5 rfl ?_
  refine n_callS (av := [.ref (ad 25), .int (nI 0), .ref (ad 26), .int (nI (2 * nn)), .int (nI 64)]) (rest := []) C mX12_239 (rs_mv I hN hC8 (kx := 25) (nx := 64) (ko := 26) (no := 256) rfl (by decide) rfl (by decide) (by decide) 0 (2 * nn) 64 (by omega) (by omega) (by rw [bt_same (hk8 25 (by decide)), bt_same (hk7 25 (by decide)), hv6, sl_wr' dgL_len]; exact nrw_dgL)) rfl (by decide) (by decide) ⟨by decide, by decide⟩ rfl (vi_c (rfl : nI 64 = nI 64) (vi_c (ix_mul (a := 2) (b := nn) (rfl : (2 : Int32) = nI 2) (hC8.i41.trans h41)) (vi_k (vi_c (rfl : (0 : Int32) = nI 0) (vi_k rfl))))) (Nat.le_of_ble_eq_true rfl) eX12_digestTree_200 (fun r σ9 hp => ?_)
  obtain ⟨rfl, hC9, hk9, hv9⟩ := hp
  have hbuf : sl (bt σ9 26) 0 (2 * nn + 64) = sl (bt σ kx) a nn ++ sl (bt σ 37) 0 nn ++ dgL θ 3 64 (sl (bt σ kx) a nn ++ sl (bt σ 37) 0 nn ++ sl (bt σ 40) 0 nn ++ sgM hw (sl (bt σ 54) 0 l4) (sl (bt σ 53) 0 l3)) := by
    rw [hv9, hv8, hv7, bt_same (hk8 25 (by decide)), bt_same (hk7 25 (by decide)), hv6, sl_wr' dgL_len, bt_same (hk7 37 (by decide)), bt_same (kk6 37 (by decide)), bt_same (kk6 kx (by omega)), wr_app (by rw [sl_len]; omega), wr_app (by rw [sl_len]; omega), ← List.append_assoc, sl_wr' (by rw [List.length_append, List.length_append, sl_len, sl_len, dgL_len]; omega)]
  refine v_aload_n C eX12_digestTree_203 rfl 0 rfl ?_
  refine v_aload_n C eX12_digestTree_204 rfl 0 rfl ?_
  refine n_callV (As := []) (rest := [.ref (ad 49)]) C I mX12_308 (rs_large3 I hN hC9 h41 hnn) (hN 49 (by decide)) hC9.obj rfl (by decide) (by decide) ⟨by decide, by decide⟩ rfl rfl (Nat.le_of_ble_eq_true rfl) eX12_digestTree_205 (fun r ρ hp => ?_)
  obtain ⟨rfl, hρ⟩ := hp
  rw [hρ]
  clear hρ ρ
  refine v_aload_n C eX12_digestTree_208 rfl 0 rfl ?_
  refine n_get C I fX12_75_X12 eX12_digestTree_209 (hN 49 (by decide)) hC9.obj rfl ?_
  refine v_iconst (v := (2 : Int32)) C eX12_digestTree_212 (by decide) ?_
  refine v_aload_n C eX12_digestTree_213 rfl 0 rfl ?_
  refine n_get C I fX12_243_X12 eX12_digestTree_214 (hN 49 (by decide)) hC9.obj rfl ?_
  refine v_imul C eX12_digestTree_217 ?_
  refine v_iload C eX12_digestTree_218 5 rfl ?_
  refine v_iadd C eX12_digestTree_220 ?_
  refine v_aload_n C eX12_digestTree_221 rfl 0 rfl ?_
  refine n_get C I fX12_102_X12 eX12_digestTree_222 (hN 49 (by decide)) hC9.obj rfl ?_
  refine v_iconst (v := (0 : Int32)) C eX12_digestTree_225 (by decide) ?_
  refine v_iload C eX12_digestTree_226 4 rfl ?_
  refine n_callV (As := [.int (nI 3), .ref (ad 26), .int (nI ((2 * nn) + 64)), .ref (ad 35), .int (nI 0), .int (nI mm)]) (rest := []) C I mX12_314 (rs_mask3 I hN hC9 (kx := 26) (nx := 256) (ko := 35) (no := 64) rfl (by decide) rfl (by decide) (by decide) (2 * nn + 64) 0 mm (by omega) hm64 (by omega)) (hN 49 (by decide)) hC9.obj rfl (by decide) (by decide) ⟨by decide, by decide⟩ rfl (vi_c (rfl : nI mm = nI mm) (vi_c (rfl : (0 : Int32) = nI 0) (vi_k (vi_c (ix_add (a := 2 * nn) (b := 64) (ix_mul (a := 2) (b := nn) (rfl : (2 : Int32) = nI 2) (hC9.i41.trans h41)) (rfl : nI 64 = nI 64)) (vi_k (vi_c (rfl : nI 3 = nI 3) rfl)))))) (Nat.le_of_ble_eq_true rfl) eX12_digestTree_228 (fun r σA hp => ?_)
  obtain ⟨rfl, hCA, hkA, hvA⟩ := hp
  have kk9 : ∀ j, ¬ (13 ≤ j ∧ j ≤ 17 ∨ j = 49 ∨ j = 25 ∨ j = 26) → σ9 j = σ j := fun j hj => (hk9 j (by omega)).trans ((hk8 j (by omega)).trans ((hk7 j (by omega)).trans (kk6 j (by omega))))
  refine n_vret C rfl eX12_digestTree_231 ⟨rfl, hCA, fun k hk => (hkA k (by omega)).trans (kk9 k (by omega)), ?_⟩
  rw [hvA, hbuf, bt_same (kk9 35 (by decide))]
  have hnn' : ¬ nn = 16 := by omega
  unfold dtL; simp only [Bool.false_eq_true, if_false, hnn']; rfl

set_option maxRecDepth 100000 in
set_option maxHeartbeats 4000000 in
theorem rs_treeNumber (I : nI1 ad N) (hN : ∀ k, k < 74 → k < N) (hC : RS G ad θ x σ) {nn tt aa th hh : Nat} (h41 : x 41 = nI nn) (h42 : x 42 = nI th) (h44 : x 44 = nI hh) (h45 : x 45 = nI aa) (h46 : x 46 = nI tt) (hht : hh ≤ th) (hb1 : tt * aa < 2 ^ 20) (hb2 : th < 2 ^ 20) {T : List Int32} {mT : Nat} (hT : sl (bt σ 35) 0 mT = T) (hmT : mT ≤ 64) (hm : (tt * aa + 7) / 8 + (th - hh + 7) / 8 ≤ mT) : nOk G B l ad N yX12_treeNumber cX12_treeNumber 6 (some .long) 0 0 0 [.ref (ad 49)] σ (fun r σ' => r = some (.long (trN T ((tt * aa + 7) / 8) ((th - hh + 7) / 8) (th - hh))) ∧ σ' = σ) := by
  refine vOk.of (by decide +kernel) (Nat.le_of_ble_eq_true rfl) ?_
  intro p e s m args below meth c C
  refine v_eq (lv' := [(0, .ref (ad 49))]) rfl rfl rfl ?_
  refine v_aload_n C eX12_treeNumber_0 rfl 0 rfl ?_
  refine n_get C I fX12_255_X12 eX12_treeNumber_1 (hN 49 (by decide)) hC.obj rfl ?_
  refine v_aload_n C eX12_treeNumber_4 rfl 0 rfl ?_
  refine n_get C I fX12_252_X12 eX12_treeNumber_5 (hN 49 (by decide)) hC.obj rfl ?_
  refine v_imul C eX12_treeNumber_8 ?_
  refine v_bipush (v := (7 : Int32)) C eX12_treeNumber_9 (by decide) ?_
  refine v_iadd C eX12_treeNumber_11 ?_
  refine v_bipush (v := (8 : Int32)) C eX12_treeNumber_12 (by decide) ?_
  refine v_idiv C eX12_treeNumber_14 (by decide) ?_
  refine v_natT (show ((((ox σ) 46) * ((ox σ) 45)) + ((7 : Int32))) / ((8 : Int32)) = nI (((tt * aa) + 7) / 8) from (ix_div (a := (tt * aa) + 7) (d := 8) (ix_add (a := tt * aa) (b := 7) (ix_mul (a := tt) (b := aa) (hC.i46.trans h46) (hC.i45.trans h45)) (rfl : (7 : Int32) = nI 7)) (rfl : (8 : Int32) = nI 8) (by omega) (by omega) (by omega))) ?_
  refine v_istore_n (lv' := [(0, .ref (ad 49)), (1, .int (nI (((tt * aa) + 7) / 8)))]) C eX12_treeNumber_15 rfl (by decide) [1, 0] rfl ?_
  refine v_aload_n C eX12_treeNumber_16 rfl 0 rfl ?_
  refine n_get C I fX12_246_X12 eX12_treeNumber_17 (hN 49 (by decide)) hC.obj rfl ?_
  refine v_aload_n C eX12_treeNumber_20 rfl 0 rfl ?_
  refine n_get C I fX12_258_X12 eX12_treeNumber_21 (hN 49 (by decide)) hC.obj rfl ?_
  refine v_isub C eX12_treeNumber_24 ?_
  refine v_bipush (v := (7 : Int32)) C eX12_treeNumber_25 (by decide) ?_
  refine v_iadd C eX12_treeNumber_27 ?_
  refine v_bipush (v := (8 : Int32)) C eX12_treeNumber_28 (by decide) ?_
  refine v_idiv C eX12_treeNumber_30 (by decide) ?_
  refine v_natT (show ((((ox σ) 42) - ((ox σ) 44)) + ((7 : Int32))) / ((8 : Int32)) = nI (((th - hh) + 7) / 8) from (ix_div (a := (th - hh) + 7) (d := 8) (ix_add (a := th - hh) (b := 7) (ix_sub (a := th) (b := hh) (hC.i42.trans h42) (hC.i44.trans h44) (by omega)) (rfl : (7 : Int32) = nI 7)) (rfl : (8 : Int32) = nI 8) (by omega) (by omega) (by omega))) ?_
  refine v_istore_n (lv' := [(0, .ref (ad 49)), (1, .int (nI (((tt * aa) + 7) / 8))), (2, .int (nI (((th - hh) + 7) / 8)))]) C eX12_treeNumber_31 rfl (by decide) [1, 2, 0] rfl ?_
  refine v_lconst (v := (0 : Int64)) C eX12_treeNumber_32 (by decide) ?_
  refine v_lstore_n (lv' := [(0, .ref (ad 49)), (1, .int (nI (((tt * aa) + 7) / 8))), (2, .int (nI (((th - hh) + 7) / 8))), (3, .long ((0 : Int64)))]) C eX12_treeNumber_33 rfl (by decide) [1, 2, 3, 0] rfl ?_
  refine v_iconst (v := nI 0) C eX12_treeNumber_34 (by decide) ?_
  refine v_istore (lv' := [(0, .ref (ad 49)), (1, .int (nI (((tt * aa) + 7) / 8))), (2, .int (nI (((th - hh) + 7) / 8))), (3, .long ((0 : Int64))), (5, .int (nI 0))]) C eX12_treeNumber_35 (by decide) [1, 2, 3, 4, 0] rfl ?_
  refine v_forP (fun j τ => τ = σ) (fun j => [(0, .ref (ad 49)), (1, .int (nI (((tt * aa) + 7) / 8))), (2, .int (nI (((th - hh) + 7) / 8))), (3, .long (trS T ((tt * aa + 7) / 8) j)), (5, .int (nI j))]) ((th - hh + 7) / 8) ?_ ?_ _ rfl
  · intro τ hI
    subst hI
    refine v_iload C eX12_treeNumber_37 4 rfl ?_
    refine v_iload_n C eX12_treeNumber_39 rfl 2 rfl ?_
    refine v_icmp_ge (tgt := 69) C eX12_treeNumber_40 (by decide) (fun _ => ?_) (fun h => absurd (ix_le (a := ((th - hh) + 7) / 8) (b := (th - hh + 7) / 8) (rfl : nI (((th - hh) + 7) / 8) = nI (((th - hh) + 7) / 8)) (rfl : nI ((th - hh + 7) / 8) = nI ((th - hh + 7) / 8)) (by omega) (by omega) (by omega)) h)
    refine v_aload_n C eX12_treeNumber_69 rfl 0 rfl ?_
    refine n_get C I fX12_246_X12 eX12_treeNumber_70 (hN 49 (by decide)) hC.obj rfl ?_
    refine v_aload_n C eX12_treeNumber_73 rfl 0 rfl ?_
    refine n_get C I fX12_258_X12 eX12_treeNumber_74 (hN 49 (by decide)) hC.obj rfl ?_
    refine v_isub C eX12_treeNumber_77 ?_
    refine v_bipush (v := (64 : Int32)) C eX12_treeNumber_78 (by decide) ?_
    by_cases c : th - hh = 64
    · refine v_icmp_ne (tgt := 87) C eX12_treeNumber_80 (by decide) (fun h => absurd (ix_eq (a := th - hh) (b := 64) (ix_sub (a := th) (b := hh) (hC.i42.trans h42) (hC.i44.trans h44) (by omega)) (rfl : (64 : Int32) = nI 64) (by omega) (by omega) (by omega)) h) (fun _ => ?_)
      refine v_lload_n C eX12_treeNumber_83 rfl 3 rfl ?_
      refine v_goto (tgt := 102) C eX12_treeNumber_84 (by decide) ?_
      exact n_lret C rfl eX12_treeNumber_102 ⟨by unfold trN; rw [if_pos c], rfl⟩
    · refine v_icmp_ne (tgt := 87) C eX12_treeNumber_80 (by decide) (fun _ => ?_) (fun h => absurd h (ix_ne (a := th - hh) (b := 64) (ix_sub (a := th) (b := hh) (hC.i42.trans h42) (hC.i44.trans h44) (by omega)) (rfl : (64 : Int32) = nI 64) (by omega) (by omega) (by omega)))
      refine v_lload_n C eX12_treeNumber_87 rfl 3 rfl ?_
      refine v_lconst (v := (1 : Int64)) C eX12_treeNumber_88 (by decide) ?_
      refine v_aload_n C eX12_treeNumber_89 rfl 0 rfl ?_
      refine n_get C I fX12_246_X12 eX12_treeNumber_90 (hN 49 (by decide)) hC.obj rfl ?_
      refine v_aload_n C eX12_treeNumber_93 rfl 0 rfl ?_
      refine n_get C I fX12_258_X12 eX12_treeNumber_94 (hN 49 (by decide)) hC.obj rfl ?_
      refine v_isub C eX12_treeNumber_97 ?_
      refine v_natT (show ((ox τ) 42) - ((ox τ) 44) = nI (th - hh) from (ix_sub (a := th) (b := hh) (hC.i42.trans h42) (hC.i44.trans h44) (by omega))) ?_
      refine v_lshl C eX12_treeNumber_98 ?_
      refine v_lconst (v := (1 : Int64)) C eX12_treeNumber_99 (by decide) ?_
      refine v_lsub C eX12_treeNumber_100 ?_
      refine v_land C eX12_treeNumber_101 ?_
      exact n_lret C rfl eX12_treeNumber_102 ⟨by unfold trN; rw [if_neg c], rfl⟩
  · intro j hj ih τ hI
    subst hI
    refine v_iload C eX12_treeNumber_37 4 rfl ?_
    refine v_iload_n C eX12_treeNumber_39 rfl 2 rfl ?_
    refine v_icmp_ge (tgt := 69) C eX12_treeNumber_40 (by decide) (fun h => absurd h (ix_nle (a := ((th - hh) + 7) / 8) (b := j) (rfl : nI (((th - hh) + 7) / 8) = nI (((th - hh) + 7) / 8)) (rfl : nI j = nI j) (by omega) (by omega) (by omega))) (fun _ => ?_)
    refine v_lload_n C eX12_treeNumber_43 rfl 3 rfl ?_
    refine v_bipush (v := (8 : Int32)) C eX12_treeNumber_44 (by decide) ?_
    refine v_lshl C eX12_treeNumber_46 ?_
    refine v_aload_n C eX12_treeNumber_47 rfl 0 rfl ?_
    refine n_get C I fX12_102_X12 eX12_treeNumber_48 (hN 49 (by decide)) hC.obj rfl ?_
    refine v_iload_n C eX12_treeNumber_51 rfl 1 rfl ?_
    refine v_iload C eX12_treeNumber_52 4 rfl ?_
    refine v_iadd C eX12_treeNumber_54 ?_
    refine n_bald C I eX12_treeNumber_55 (hN 35 (by decide)) (hC.b 35 64 rfl (by decide)) ((((tt * aa) + 7) / 8) + j) (ix_add (a := ((tt * aa) + 7) / 8) (b := j) (rfl : nI (((tt * aa) + 7) / 8) = nI (((tt * aa) + 7) / 8)) (rfl : nI j = nI j)) (by omega) (by decide) ?_
    refine v_natT (show bt τ 35 ((tt * aa + 7) / 8 + j) = T.getD ((tt * aa + 7) / 8 + j) 0 from by rw [← hT, sl_at (by omega), Nat.zero_add]) ?_
    refine v_i2l C eX12_treeNumber_56 ?_
    refine v_ldc2 (v := (255 : Int64)) C eX12_treeNumber_57 vw_1146 ?_
    refine v_land C eX12_treeNumber_60 ?_
    refine v_lor C eX12_treeNumber_61 ?_
    refine v_lstore_n (lv' := [(0, .ref (ad 49)), (1, .int (nI (((tt * aa) + 7) / 8))), (2, .int (nI (((th - hh) + 7) / 8))), (3, .long (((trS T ((tt * aa + 7) / 8) j) <<< (((8 : Int32)).toInt64 &&& 63)) ||| (((T.getD ((tt * aa + 7) / 8 + j) 0).toInt64) &&& ((255 : Int64))))), (5, .int (nI j))]) C eX12_treeNumber_62 rfl (by decide) [1, 2, 3, 0, 4] rfl ?_
    refine v_iinc (lv' := [(0, .ref (ad 49)), (1, .int (nI (((tt * aa) + 7) / 8))), (2, .int (nI (((th - hh) + 7) / 8))), (3, .long (((trS T ((tt * aa + 7) / 8) j) <<< (((8 : Int32)).toInt64 &&& 63)) ||| (((T.getD ((tt * aa + 7) / 8 + j) 0).toInt64) &&& ((255 : Int64))))), (5, .int (nI (j + 1)))]) C eX12_treeNumber_63 4 rfl (ix_inc _) (by decide) [1, 2, 3, 4, 0] rfl ?_
    refine v_goto (tgt := 37) C eX12_treeNumber_66 (by decide) ?_
    exact ih _ rfl

set_option maxRecDepth 100000 in
set_option maxHeartbeats 4000000 in
theorem rs_pairNumber (I : nI1 ad N) (hN : ∀ k, k < 74 → k < N) (hC : RS G ad θ x σ) {nn tt aa th hh : Nat} (h41 : x 41 = nI nn) (h42 : x 42 = nI th) (h44 : x 44 = nI hh) (h45 : x 45 = nI aa) (h46 : x 46 = nI tt) (hht : hh ≤ th) (hb1 : tt * aa < 2 ^ 20) (hb2 : th < 2 ^ 20) {T : List Int32} {mT : Nat} (hT : sl (bt σ 35) 0 mT = T) (hmT : mT ≤ 64) (hh9 : hh ≤ 9) (hm : (tt * aa + 7) / 8 + (th - hh + 7) / 8 + (hh + 7) / 8 ≤ mT) : nOk G B l ad N yX12_pairNumber cX12_pairNumber 5 (some .int) 0 0 0 [.ref (ad 49)] σ (fun r σ' => r = some (.int (nI (prS T ((tt * aa + 7) / 8 + (th - hh + 7) / 8) ((hh + 7) / 8) % 2 ^ hh))) ∧ σ' = σ) := by
  refine vOk.of (by decide +kernel) (Nat.le_of_ble_eq_true rfl) ?_
  intro p e s m args below meth c C
  refine v_eq (lv' := [(0, .ref (ad 49))]) rfl rfl rfl ?_
  have h2h : 2 ^ hh ≤ 2 ^ 9 := Nat.pow_le_pow_right (by decide) hh9
  have h1h : 1 ≤ 2 ^ hh := Nat.one_le_two_pow
  refine v_aload_n C eX12_pairNumber_0 rfl 0 rfl ?_
  refine n_get C I fX12_255_X12 eX12_pairNumber_1 (hN 49 (by decide)) hC.obj rfl ?_
  refine v_aload_n C eX12_pairNumber_4 rfl 0 rfl ?_
  refine n_get C I fX12_252_X12 eX12_pairNumber_5 (hN 49 (by decide)) hC.obj rfl ?_
  refine v_imul C eX12_pairNumber_8 ?_
  refine v_bipush (v := (7 : Int32)) C eX12_pairNumber_9 (by decide) ?_
  refine v_iadd C eX12_pairNumber_11 ?_
  refine v_bipush (v := (8 : Int32)) C eX12_pairNumber_12 (by decide) ?_
  refine v_idiv C eX12_pairNumber_14 (by decide) ?_
  refine v_aload_n C eX12_pairNumber_15 rfl 0 rfl ?_
  refine n_get C I fX12_246_X12 eX12_pairNumber_16 (hN 49 (by decide)) hC.obj rfl ?_
  refine v_aload_n C eX12_pairNumber_19 rfl 0 rfl ?_
  refine n_get C I fX12_258_X12 eX12_pairNumber_20 (hN 49 (by decide)) hC.obj rfl ?_
  refine v_isub C eX12_pairNumber_23 ?_
  refine v_bipush (v := (7 : Int32)) C eX12_pairNumber_24 (by decide) ?_
  refine v_iadd C eX12_pairNumber_26 ?_
  refine v_bipush (v := (8 : Int32)) C eX12_pairNumber_27 (by decide) ?_
  refine v_idiv C eX12_pairNumber_29 (by decide) ?_
  refine v_iadd C eX12_pairNumber_30 ?_
  refine v_natT (show (((((ox σ) 46) * ((ox σ) 45)) + ((7 : Int32))) / ((8 : Int32))) + (((((ox σ) 42) - ((ox σ) 44)) + ((7 : Int32))) / ((8 : Int32))) = nI ((((tt * aa) + 7) / 8) + (((th - hh) + 7) / 8)) from (ix_add (a := ((tt * aa) + 7) / 8) (b := ((th - hh) + 7) / 8) (ix_div (a := (tt * aa) + 7) (d := 8) (ix_add (a := tt * aa) (b := 7) (ix_mul (a := tt) (b := aa) (hC.i46.trans h46) (hC.i45.trans h45)) (rfl : (7 : Int32) = nI 7)) (rfl : (8 : Int32) = nI 8) (by omega) (by omega) (by omega)) (ix_div (a := (th - hh) + 7) (d := 8) (ix_add (a := th - hh) (b := 7) (ix_sub (a := th) (b := hh) (hC.i42.trans h42) (hC.i44.trans h44) (by omega)) (rfl : (7 : Int32) = nI 7)) (rfl : (8 : Int32) = nI 8) (by omega) (by omega) (by omega)))) ?_
  refine v_istore_n (lv' := [(0, .ref (ad 49)), (1, .int (nI ((((tt * aa) + 7) / 8) + (((th - hh) + 7) / 8))))]) C eX12_pairNumber_31 rfl (by decide) [1, 0] rfl ?_
  refine v_aload_n C eX12_pairNumber_32 rfl 0 rfl ?_
  refine n_get C I fX12_258_X12 eX12_pairNumber_33 (hN 49 (by decide)) hC.obj rfl ?_
  refine v_bipush (v := (7 : Int32)) C eX12_pairNumber_36 (by decide) ?_
  refine v_iadd C eX12_pairNumber_38 ?_
  refine v_bipush (v := (8 : Int32)) C eX12_pairNumber_39 (by decide) ?_
  refine v_idiv C eX12_pairNumber_41 (by decide) ?_
  refine v_natT (show (((ox σ) 44) + ((7 : Int32))) / ((8 : Int32)) = nI ((hh + 7) / 8) from (ix_div (a := hh + 7) (d := 8) (ix_add (a := hh) (b := 7) (hC.i44.trans h44) (rfl : (7 : Int32) = nI 7)) (rfl : (8 : Int32) = nI 8) (by omega) (by omega) (by omega))) ?_
  refine v_istore_n (lv' := [(0, .ref (ad 49)), (1, .int (nI ((((tt * aa) + 7) / 8) + (((th - hh) + 7) / 8)))), (2, .int (nI ((hh + 7) / 8)))]) C eX12_pairNumber_42 rfl (by decide) [1, 2, 0] rfl ?_
  refine v_iconst (v := nI 0) C eX12_pairNumber_43 (by decide) ?_
  refine v_istore_n (lv' := [(0, .ref (ad 49)), (1, .int (nI ((((tt * aa) + 7) / 8) + (((th - hh) + 7) / 8)))), (2, .int (nI ((hh + 7) / 8))), (3, .int (nI 0))]) C eX12_pairNumber_44 rfl (by decide) [1, 2, 3, 0] rfl ?_
  refine v_iconst (v := nI 0) C eX12_pairNumber_45 (by decide) ?_
  refine v_istore (lv' := [(0, .ref (ad 49)), (1, .int (nI ((((tt * aa) + 7) / 8) + (((th - hh) + 7) / 8)))), (2, .int (nI ((hh + 7) / 8))), (3, .int (nI 0)), (4, .int (nI 0))]) C eX12_pairNumber_46 (by decide) [1, 2, 3, 4, 0] rfl ?_
  refine v_forP (fun j τ => τ = σ) (fun j => [(0, .ref (ad 49)), (1, .int (nI ((((tt * aa) + 7) / 8) + (((th - hh) + 7) / 8)))), (2, .int (nI ((hh + 7) / 8))), (3, .int (nI (prS T ((tt * aa + 7) / 8 + (th - hh + 7) / 8) j))), (4, .int (nI j))]) ((hh + 7) / 8) ?_ ?_ _ rfl
  · intro τ hI
    subst hI
    have hp := prS_lt (T := T) (u := (tt * aa + 7) / 8 + (th - hh + 7) / 8) ((hh + 7) / 8)
    have hp2 : 256 ^ ((hh + 7) / 8) ≤ 256 ^ 2 := Nat.pow_le_pow_right (by decide) (by omega)
    refine v_iload C eX12_pairNumber_48 4 rfl ?_
    refine v_iload_n C eX12_pairNumber_50 rfl 2 rfl ?_
    refine v_icmp_ge (tgt := 79) C eX12_pairNumber_51 (by decide) (fun _ => ?_) (fun h => absurd (ix_le (a := (hh + 7) / 8) (b := (hh + 7) / 8) (rfl : nI ((hh + 7) / 8) = nI ((hh + 7) / 8)) (rfl : nI ((hh + 7) / 8) = nI ((hh + 7) / 8)) (by omega) (by omega) (by omega)) h)
    refine v_iload_n C eX12_pairNumber_79 rfl 3 rfl ?_
    refine v_iconst (v := (1 : Int32)) C eX12_pairNumber_80 (by decide) ?_
    refine v_aload_n C eX12_pairNumber_81 rfl 0 rfl ?_
    refine n_get C I fX12_258_X12 eX12_pairNumber_82 (hN 49 (by decide)) hC.obj rfl ?_
    refine v_ishl C eX12_pairNumber_85 ?_
    refine v_iconst (v := (1 : Int32)) C eX12_pairNumber_86 (by decide) ?_
    refine v_isub C eX12_pairNumber_87 ?_
    refine v_iand C eX12_pairNumber_88 ?_
    refine v_natT (show (nI (prS T ((tt * aa + 7) / 8 + (th - hh + 7) / 8) ((hh + 7) / 8))) &&& ((((1 : Int32)) <<< (((ox τ) 44) &&& 31)) - ((1 : Int32))) = nI (prS T ((tt * aa + 7) / 8 + (th - hh + 7) / 8) ((hh + 7) / 8) % 2 ^ hh) from ix_mask rfl (((ix_sub (a := 1 * 2 ^ hh) (b := 1) (ix_shlV (a := 1) (j := hh) (rfl : (1 : Int32) = nI 1) (hC.i44.trans h44) (by omega) (by omega)) (rfl : (1 : Int32) = nI 1) (by omega))).trans (congrArg nI (by rw [Nat.one_mul]))) (by omega) (by omega)) ?_
    exact n_iret C rfl eX12_pairNumber_89 ⟨rfl, rfl⟩
  · intro j hj ih τ hI
    subst hI
    refine v_iload C eX12_pairNumber_48 4 rfl ?_
    refine v_iload_n C eX12_pairNumber_50 rfl 2 rfl ?_
    refine v_icmp_ge (tgt := 79) C eX12_pairNumber_51 (by decide) (fun h => absurd h (ix_nle (a := (hh + 7) / 8) (b := j) (rfl : nI ((hh + 7) / 8) = nI ((hh + 7) / 8)) (rfl : nI j = nI j) (by omega) (by omega) (by omega))) (fun _ => ?_)
    have hp := prS_lt (T := T) (u := (tt * aa + 7) / 8 + (th - hh + 7) / 8) j
    have hp2 : 256 ^ j ≤ 256 ^ 1 := Nat.pow_le_pow_right (by decide) (by omega)
    refine v_iload_n C eX12_pairNumber_54 rfl 3 rfl ?_
    refine v_bipush (v := (8 : Int32)) C eX12_pairNumber_55 (by decide) ?_
    refine v_ishl C eX12_pairNumber_57 ?_
    refine v_aload_n C eX12_pairNumber_58 rfl 0 rfl ?_
    refine n_get C I fX12_102_X12 eX12_pairNumber_59 (hN 49 (by decide)) hC.obj rfl ?_
    refine v_iload_n C eX12_pairNumber_62 rfl 1 rfl ?_
    refine v_iload C eX12_pairNumber_63 4 rfl ?_
    refine v_iadd C eX12_pairNumber_65 ?_
    refine n_bald C I eX12_pairNumber_66 (hN 35 (by decide)) (hC.b 35 64 rfl (by decide)) (((((tt * aa) + 7) / 8) + (((th - hh) + 7) / 8)) + j) (ix_add (a := (((tt * aa) + 7) / 8) + (((th - hh) + 7) / 8)) (b := j) (rfl : nI ((((tt * aa) + 7) / 8) + (((th - hh) + 7) / 8)) = nI ((((tt * aa) + 7) / 8) + (((th - hh) + 7) / 8))) (rfl : nI j = nI j)) (by omega) (by decide) ?_
    refine v_natT (show bt τ 35 ((tt * aa + 7) / 8 + (th - hh + 7) / 8 + j) = T.getD ((tt * aa + 7) / 8 + (th - hh + 7) / 8 + j) 0 from by rw [← hT, sl_at (by omega), Nat.zero_add]) ?_
    refine v_sipush (v := (255 : Int32)) C eX12_pairNumber_67 (by decide) ?_
    refine v_iand C eX12_pairNumber_70 ?_
    refine v_ior C eX12_pairNumber_71 ?_
    refine v_natT (show ((nI (prS T ((tt * aa + 7) / 8 + (th - hh + 7) / 8) j)) <<< (((8 : Int32)) &&& 31)) ||| ((T.getD ((tt * aa + 7) / 8 + (th - hh + 7) / 8 + j) 0) &&& ((255 : Int32))) = nI (prS T ((tt * aa + 7) / 8 + (th - hh + 7) / 8) (j + 1)) from ix_or8 (a := prS T ((tt * aa + 7) / 8 + (th - hh + 7) / 8) j) (b := (T.getD ((tt * aa + 7) / 8 + (th - hh + 7) / 8 + j) 0).toBitVec.toNat % 2 ^ 8) (ix_shl (rfl : nI (prS T ((tt * aa + 7) / 8 + (th - hh + 7) / 8) j) = nI (prS T ((tt * aa + 7) / 8 + (th - hh + 7) / 8) j)) 8 (by decide) (by omega)) (pk_and _ 8 (by decide)) (by omega) (by omega)) ?_
    refine v_istore_n (lv' := [(0, .ref (ad 49)), (1, .int (nI ((((tt * aa) + 7) / 8) + (((th - hh) + 7) / 8)))), (2, .int (nI ((hh + 7) / 8))), (3, .int (nI (prS T ((tt * aa + 7) / 8 + (th - hh + 7) / 8) (j + 1)))), (4, .int (nI j))]) C eX12_pairNumber_72 rfl (by decide) [1, 2, 3, 0, 4] rfl ?_
    refine v_iinc (lv' := [(0, .ref (ad 49)), (1, .int (nI ((((tt * aa) + 7) / 8) + (((th - hh) + 7) / 8)))), (2, .int (nI ((hh + 7) / 8))), (3, .int (nI (prS T ((tt * aa + 7) / 8 + (th - hh + 7) / 8) (j + 1)))), (4, .int (nI (j + 1)))]) C eX12_pairNumber_73 4 rfl (ix_inc _) (by decide) [1, 2, 3, 4, 0] rfl ?_
    refine v_goto (tgt := 48) C eX12_pairNumber_76 (by decide) ?_
    exact ih _ rfl

end M26
