section M11
variable {G : vG} {B : Nat} {l : Launch} {ad : Nat → Nat} {N : Nat}
set_option maxRecDepth 100000 in
set_option maxHeartbeats 4000000 in
theorem c_hashed3 (I : nI1 ad N) (hN : ∀ k, k < 74 → k < N) {σ : nS} {x T : Nat → Int32} {Rc K Rt : Nat → Int64} {P A f fo : Nat → Int32} {kx nx ko no nn : Nat} (h11 : σ 11 = eI G 25 T) (h12 : σ 12 = eJ G 24 Rc) (h6 : σ 6 = eJ G 80 K) (h5 : σ 5 = eJ G 16 Rt) (h37 : σ 37 = eB G 32 P) (h28 : σ 28 = eB G 32 A) (hkx : kx < N) (hkx1 : kx ∉ [13, 14, 15, 16, 17, 49]) (hx : σ kx = eB G nx f) (hko : ko < N) (hko1 : ko ∉ [13, 14, 15, 16, 17, 49]) (hko2 : ko ∉ [6, 11, 12]) (ho : σ ko = eB G no fo) (h41 : x 41 = nI nn) (hnn : nn ≤ 32) (a mm b : Nat) (ha : a + mm ≤ nx) (hnx : nx < 2 ^ 31) (hb : b + nn ≤ no) (hno : no < 2 ^ 31) (hmm : mm < 2 ^ 31) (h48 : x 48 = 0) (c1 : 16 < nn) (c2 : nn < mm) (c3 : ¬ A 19 = 5) (c4 : ¬ A 19 = 6) (S O D W : Nat → Int64) (Bk : Nat → Int32) (fl : Nat) (tt : Int64) : nOk G B l ad N yX12_hashed cX12_hashed 8 none 5 0 0 [.ref (ad 49), .ref (ad kx), .int (nI a), .int (nI mm), .ref (ad ko), .int (nI b)] (gσ G ad σ x (S, O, D, W, Bk, fl, tt)) (fun r σ' => r = none ∧ ∃ (x' : Nat → Int32) (h' : hT), (∀ j, j ≠ 18 → j ≠ 19 → j ≠ 20 → x' j = x j) ∧ σ' = gσ G ad (va_up σ ko (eB G no (hr2 T Rc K Rt 3 nn P A f a mm (S, O, D, W, Bk, fl, tt) b fo))) x' h') := by
  refine vOk.of (by decide +kernel) (Nat.le_of_ble_eq_true rfl) ?_
  intro p e s m args below meth c C
  refine v_eq (lv' := [(0, .ref (ad 49)), (1, .ref (ad kx)), (2, .int (nI a)), (3, .int (nI mm)), (4, .ref (ad ko)), (5, .int (nI b))]) rfl rfl rfl ?_
  refine v_aload_n C eX12_hashed_0 rfl 0 rfl ?_
  refine n_get C I fX12_264_X12 eX12_hashed_1 (hN 49 (by decide)) rfl rfl ?_
  refine v_if_eq (tgt := 40) C eX12_hashed_4 (by decide) (fun _ => ?_) (fun h => absurd (by rw [h48]) h)
  refine v_aload_n C eX12_hashed_40 rfl 0 rfl ?_
  refine n_get C I fX12_243_X12 eX12_hashed_41 (hN 49 (by decide)) rfl rfl ?_
  refine v_natT h41 ?_
  refine v_bipush (v := (16 : Int32)) C eX12_hashed_44 (by decide) ?_
  refine v_icmp_le (tgt := 84) C eX12_hashed_46 (by decide) (fun h => absurd h (ix_nle (a := nn) (b := 16) (rfl : nI nn = nI nn) (rfl : (16 : Int32) = nI 16) (by omega) (by omega) (by omega))) (fun _ => ?_)
  refine v_iload_n C eX12_hashed_49 rfl 3 rfl ?_
  refine v_aload_n C eX12_hashed_50 rfl 0 rfl ?_
  refine n_get C I fX12_243_X12 eX12_hashed_51 (hN 49 (by decide)) rfl rfl ?_
  refine v_natT h41 ?_
  refine v_icmp_le (tgt := 84) C eX12_hashed_54 (by decide) (fun h => absurd h (ix_nle (a := mm) (b := nn) (rfl : nI mm = nI mm) (rfl : nI nn = nI nn) (by omega) (by omega) (by omega))) (fun _ => ?_)
  refine v_aload_n C eX12_hashed_57 rfl 0 rfl ?_
  refine n_get C I fX12_81_X12 eX12_hashed_58 (hN 49 (by decide)) rfl rfl ?_
  refine v_bipush (v := (19 : Int32)) C eX12_hashed_61 (by decide) ?_
  refine n_bald C I eX12_hashed_63 (hN 28 (by decide)) h28 19 (rfl : (19 : Int32) = nI 19) (by omega) (by decide) ?_
  refine v_iconst (v := (5 : Int32)) C eX12_hashed_64 (by decide) ?_
  refine v_icmp_eq (tgt := 84) C eX12_hashed_65 (by decide) (fun h => absurd h c3) (fun _ => ?_)
  refine v_aload_n C eX12_hashed_68 rfl 0 rfl ?_
  refine n_get C I fX12_81_X12 eX12_hashed_69 (hN 49 (by decide)) rfl rfl ?_
  refine v_bipush (v := (19 : Int32)) C eX12_hashed_72 (by decide) ?_
  refine n_bald C I eX12_hashed_74 (hN 28 (by decide)) h28 19 (rfl : (19 : Int32) = nI 19) (by omega) (by decide) ?_
  refine v_bipush (v := (6 : Int32)) C eX12_hashed_75 (by decide) ?_
  refine v_icmp_eq (tgt := 84) C eX12_hashed_77 (by decide) (fun h => absurd h c4) (fun _ => ?_)
  refine v_iconst (v := (1 : Int32)) C eX12_hashed_80 (by decide) ?_
  refine v_goto (tgt := 85) C eX12_hashed_81 (by decide) ?_
  refine v_istore (lv' := [(0, .ref (ad 49)), (1, .ref (ad kx)), (2, .int (nI a)), (3, .int (nI mm)), (4, .ref (ad ko)), (5, .int (nI b)), (6, .int ((1 : Int32)))]) C eX12_hashed_85 (by decide) [1, 2, 3, 4, 5, 6, 0] rfl ?_
  refine hs_tail3 I hN C rfl (by decide) (by decide) (by decide) h11 h12 h6 h5 h37 h28 hkx hkx1 hx hko hko1 hko2 ho h41 hnn a mm b ha hnx hb hno S O D W Bk fl tt ?_
  refine v_wide (k := 0) (n := 0) (by decide) (by decide) ?_
  exact n_vret C rfl eX12_hashed_213 ⟨rfl, _, _, n_ag, rfl⟩

set_option maxRecDepth 100000 in
set_option maxHeartbeats 4000000 in
theorem c_hashed1 (I : nI1 ad N) (hN : ∀ k, k < 74 → k < N) {σ : nS} {x T : Nat → Int32} {Rc K Rt : Nat → Int64} {P A f fo : Nat → Int32} {kx nx ko no nn : Nat} (h11 : σ 11 = eI G 25 T) (h12 : σ 12 = eJ G 24 Rc) (h6 : σ 6 = eJ G 80 K) (h5 : σ 5 = eJ G 16 Rt) (h37 : σ 37 = eB G 32 P) (h28 : σ 28 = eB G 32 A) (hkx : kx < N) (hkx1 : kx ∉ [13, 14, 15, 16, 17, 49]) (hx : σ kx = eB G nx f) (hko : ko < N) (hko1 : ko ∉ [13, 14, 15, 16, 17, 49]) (hko2 : ko ∉ [6, 11, 12]) (ho : σ ko = eB G no fo) (h41 : x 41 = nI nn) (hnn : nn ≤ 32) (a mm b : Nat) (ha : a + mm ≤ nx) (hnx : nx < 2 ^ 31) (hb : b + nn ≤ no) (hno : no < 2 ^ 31) (hmm : mm < 2 ^ 31) (h48 : x 48 = 0) (hsm : nn ≤ 16 ∨ mm ≤ nn ∨ A 19 = 5 ∨ A 19 = 6) (S O D W : Nat → Int64) (Bk : Nat → Int32) (fl : Nat) (tt : Int64) : nOk G B l ad N yX12_hashed cX12_hashed 8 none 5 0 0 [.ref (ad 49), .ref (ad kx), .int (nI a), .int (nI mm), .ref (ad ko), .int (nI b)] (gσ G ad σ x (S, O, D, W, Bk, fl, tt)) (fun r σ' => r = none ∧ ∃ (x' : Nat → Int32) (h' : hT), (∀ j, j ≠ 18 → j ≠ 19 → j ≠ 20 → x' j = x j) ∧ σ' = gσ G ad (va_up σ ko (eB G no (hr2 T Rc K Rt 1 nn P A f a mm (S, O, D, W, Bk, fl, tt) b fo))) x' h') := by
  refine vOk.of (by decide +kernel) (Nat.le_of_ble_eq_true rfl) ?_
  intro p e s m args below meth c C
  refine v_eq (lv' := [(0, .ref (ad 49)), (1, .ref (ad kx)), (2, .int (nI a)), (3, .int (nI mm)), (4, .ref (ad ko)), (5, .int (nI b))]) rfl rfl rfl ?_
  refine v_aload_n C eX12_hashed_0 rfl 0 rfl ?_
  refine n_get C I fX12_264_X12 eX12_hashed_1 (hN 49 (by decide)) rfl rfl ?_
  refine v_if_eq (tgt := 40) C eX12_hashed_4 (by decide) (fun _ => ?_) (fun h => absurd (by rw [h48]) h)
  refine v_aload_n C eX12_hashed_40 rfl 0 rfl ?_
  refine n_get C I fX12_243_X12 eX12_hashed_41 (hN 49 (by decide)) rfl rfl ?_
  refine v_natT h41 ?_
  refine v_bipush (v := (16 : Int32)) C eX12_hashed_44 (by decide) ?_
  by_cases c1 : nn ≤ 16
  · refine v_icmp_le (tgt := 84) C eX12_hashed_46 (by decide) (fun _ => ?_) (fun h => absurd (ix_le (a := nn) (b := 16) (rfl : nI nn = nI nn) (rfl : (16 : Int32) = nI 16) (by omega) (by omega) (by omega)) h)
    refine v_iconst (v := (0 : Int32)) C eX12_hashed_84 (by decide) ?_
    refine v_istore (lv' := [(0, .ref (ad 49)), (1, .ref (ad kx)), (2, .int (nI a)), (3, .int (nI mm)), (4, .ref (ad ko)), (5, .int (nI b)), (6, .int ((0 : Int32)))]) C eX12_hashed_85 (by decide) [1, 2, 3, 4, 5, 6, 0] rfl ?_
    refine hs_tail1 I hN C rfl (by decide) (by decide) (by decide) h11 h12 h6 h5 h37 h28 hkx hkx1 hx hko hko1 hko2 ho h41 hnn a mm b ha hnx hb hno S O D W Bk fl tt ?_
    refine v_wide (k := 0) (n := 0) (by decide) (by decide) ?_
    exact n_vret C rfl eX12_hashed_213 ⟨rfl, _, _, n_ag, rfl⟩
  · refine v_icmp_le (tgt := 84) C eX12_hashed_46 (by decide) (fun h => absurd h (ix_nle (a := nn) (b := 16) (rfl : nI nn = nI nn) (rfl : (16 : Int32) = nI 16) (by omega) (by omega) (by omega))) (fun _ => ?_)
    refine v_iload_n C eX12_hashed_49 rfl 3 rfl ?_
    refine v_aload_n C eX12_hashed_50 rfl 0 rfl ?_
    refine n_get C I fX12_243_X12 eX12_hashed_51 (hN 49 (by decide)) rfl rfl ?_
    refine v_natT h41 ?_
    by_cases c2 : mm ≤ nn
    · refine v_icmp_le (tgt := 84) C eX12_hashed_54 (by decide) (fun _ => ?_) (fun h => absurd (ix_le (a := mm) (b := nn) (rfl : nI mm = nI mm) (rfl : nI nn = nI nn) (by omega) (by omega) (by omega)) h)
      refine v_iconst (v := (0 : Int32)) C eX12_hashed_84 (by decide) ?_
      refine v_istore (lv' := [(0, .ref (ad 49)), (1, .ref (ad kx)), (2, .int (nI a)), (3, .int (nI mm)), (4, .ref (ad ko)), (5, .int (nI b)), (6, .int ((0 : Int32)))]) C eX12_hashed_85 (by decide) [1, 2, 3, 4, 5, 6, 0] rfl ?_
      refine hs_tail1 I hN C rfl (by decide) (by decide) (by decide) h11 h12 h6 h5 h37 h28 hkx hkx1 hx hko hko1 hko2 ho h41 hnn a mm b ha hnx hb hno S O D W Bk fl tt ?_
      refine v_wide (k := 0) (n := 0) (by decide) (by decide) ?_
      exact n_vret C rfl eX12_hashed_213 ⟨rfl, _, _, n_ag, rfl⟩
    · refine v_icmp_le (tgt := 84) C eX12_hashed_54 (by decide) (fun h => absurd h (ix_nle (a := mm) (b := nn) (rfl : nI mm = nI mm) (rfl : nI nn = nI nn) (by omega) (by omega) (by omega))) (fun _ => ?_)
      refine v_aload_n C eX12_hashed_57 rfl 0 rfl ?_
      refine n_get C I fX12_81_X12 eX12_hashed_58 (hN 49 (by decide)) rfl rfl ?_
      refine v_bipush (v := (19 : Int32)) C eX12_hashed_61 (by decide) ?_
      refine n_bald C I eX12_hashed_63 (hN 28 (by decide)) h28 19 (rfl : (19 : Int32) = nI 19) (by omega) (by decide) ?_
      refine v_iconst (v := (5 : Int32)) C eX12_hashed_64 (by decide) ?_
      by_cases c3 : A 19 = 5
      · refine v_icmp_eq (tgt := 84) C eX12_hashed_65 (by decide) (fun _ => ?_) (fun h => absurd c3 h)
        refine v_iconst (v := (0 : Int32)) C eX12_hashed_84 (by decide) ?_
        refine v_istore (lv' := [(0, .ref (ad 49)), (1, .ref (ad kx)), (2, .int (nI a)), (3, .int (nI mm)), (4, .ref (ad ko)), (5, .int (nI b)), (6, .int ((0 : Int32)))]) C eX12_hashed_85 (by decide) [1, 2, 3, 4, 5, 6, 0] rfl ?_
        refine hs_tail1 I hN C rfl (by decide) (by decide) (by decide) h11 h12 h6 h5 h37 h28 hkx hkx1 hx hko hko1 hko2 ho h41 hnn a mm b ha hnx hb hno S O D W Bk fl tt ?_
        refine v_wide (k := 0) (n := 0) (by decide) (by decide) ?_
        exact n_vret C rfl eX12_hashed_213 ⟨rfl, _, _, n_ag, rfl⟩
      · refine v_icmp_eq (tgt := 84) C eX12_hashed_65 (by decide) (fun h => absurd h c3) (fun _ => ?_)
        refine v_aload_n C eX12_hashed_68 rfl 0 rfl ?_
        refine n_get C I fX12_81_X12 eX12_hashed_69 (hN 49 (by decide)) rfl rfl ?_
        refine v_bipush (v := (19 : Int32)) C eX12_hashed_72 (by decide) ?_
        refine n_bald C I eX12_hashed_74 (hN 28 (by decide)) h28 19 (rfl : (19 : Int32) = nI 19) (by omega) (by decide) ?_
        refine v_bipush (v := (6 : Int32)) C eX12_hashed_75 (by decide) ?_
        by_cases c4 : A 19 = 6
        · refine v_icmp_eq (tgt := 84) C eX12_hashed_77 (by decide) (fun _ => ?_) (fun h => absurd c4 h)
          refine v_iconst (v := (0 : Int32)) C eX12_hashed_84 (by decide) ?_
          refine v_istore (lv' := [(0, .ref (ad 49)), (1, .ref (ad kx)), (2, .int (nI a)), (3, .int (nI mm)), (4, .ref (ad ko)), (5, .int (nI b)), (6, .int ((0 : Int32)))]) C eX12_hashed_85 (by decide) [1, 2, 3, 4, 5, 6, 0] rfl ?_
          refine hs_tail1 I hN C rfl (by decide) (by decide) (by decide) h11 h12 h6 h5 h37 h28 hkx hkx1 hx hko hko1 hko2 ho h41 hnn a mm b ha hnx hb hno S O D W Bk fl tt ?_
          refine v_wide (k := 0) (n := 0) (by decide) (by decide) ?_
          exact n_vret C rfl eX12_hashed_213 ⟨rfl, _, _, n_ag, rfl⟩
        · exact absurd hsm (fun q => by rcases q with q | q | q | q; exact c1 q; exact c2 q; exact c3 q; exact c4 q)

end M11
