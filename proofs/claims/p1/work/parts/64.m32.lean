
theorem RAd.set2 {S : sT} {T : List Int32} {σ σ' : nS} {v : Int32} (h : RAd S T σ v) {s t : Nat} {L M : List Int32} (hst : s ≠ t) (hk : ∀ k, (k = 0 ∨ (50 ≤ k ∧ k < 58)) ∧ k ≠ 50 + s ∧ k ≠ 50 + t → σ' k = σ k) (h2 : bt σ' 2 = upd (upd (bt σ 2) s (nI L.length)) t (nI M.length)) (hL : L.length ≤ 65536) (hl : sl (bt σ' (50 + s)) 0 L.length = L) (hn : nrw L) (hM : M.length ≤ 65536) (hm : sl (bt σ' (50 + t)) 0 M.length = M) (hnm : nrw M) : RAd (seti (seti S s L) t M) T σ' v := by
  refine ⟨⟨h.1.1, h.1.2.1, by rw [bt_same (hk 0 (by omega))]; exact h.1.2.2.1, h.1.2.2.2⟩, fun i hi => ?_⟩
  unfold seti
  by_cases q : i = t
  · subst q
    rw [if_pos rfl, h2, pk_us]
    exact ⟨rfl, hM, hm, hnm⟩
  · by_cases q2 : i = s
    · subst q2
      rw [if_neg q, if_pos rfl, h2, pk_un q, pk_us]
      exact ⟨rfl, hL, hl, hn⟩
    · rw [if_neg q, if_neg q2, h2, pk_un q, pk_un q2, bt_same (hk (50 + i) (by omega))]
      exact h.2 i hi
theorem sh_eq {s : Nat} : (if s < 6 then (1 : Int32) else 0) = if shB s = true then 1 else 0 := by
  unfold shB
  by_cases h : s < 6 <;> simp [h]
section M32
variable {G : vG} {B : Nat} {l : Launch} {ad : Nat → Nat} {N : Nat} {θ : tT} {σ : nS}
set_option maxRecDepth 100000 in
set_option maxHeartbeats 4000000 in
theorem ra_word2 (I : nI1 ad N) (hN : ∀ k, k < 74 → k < N) {S : sT} {T : List Int32} {cd0 : Int32} (hA : RA G ad θ S T cd0 σ) (p0 p1 : Int32) : nOk G B l ad N yX12_word_ cX12_word_ 6 (some .long) 1 0 0 [.ref (ad 49), .int p0, .int p1] σ (fun r σ' => r = some (.long (sp_word S p0 p1).2) ∧ RA G ad θ S T ((sp_word S p0 p1).1) σ' ∧ (∀ k, 74 ≤ k → σ' k = σ k)) := by
  refine vOk.of (by decide +kernel) (Nat.le_of_ble_eq_true rfl) ?_
  intro p e s m args below meth c C
  refine v_eq (lv' := [(0, .ref (ad 49)), (1, .int p0), (2, .int p1)]) rfl rfl rfl ?_
  obtain ⟨x, hC, hcd, hd⟩ := hA
  refine v_aload_n C eX12_word__0 rfl 0 rfl ?_
  refine v_iload_n C eX12_word__1 rfl 1 rfl ?_
  refine v_iconst (v := (0 : Int32)) C eX12_word__2 (by decide) ?_
  refine v_bipush (v := (7 : Int32)) C eX12_word__3 (by decide) ?_
  refine n_callS (av := [.int p0, .int ((0 : Int32)), .int ((7 : Int32))]) (rest := [.ref (ad 49)]) C mX12_138 (c_in p0 ((0 : Int32)) ((7 : Int32))) rfl (by decide) (by decide) ⟨by decide, by decide⟩ rfl (vi_k (vi_k (vi_k rfl))) (Nat.le_of_ble_eq_true rfl) eX12_word__5 (fun r ρ hp => ?_)
  obtain ⟨rfl, hρ⟩ := hp
  rw [hρ]
  clear hρ ρ
  by_cases c1 : 0 ≤ p0 ∧ p0 ≤ 7
  · rw [show sp_word S p0 p1 = (if 0 ≤ p1 ∧ p1 ≤ nI (S (ixN p0)).length - 1 then (0, wdS (S (ixN p0)) (ixN p1) 8) else (2, 0)) from if_pos c1]
    refine v_natT (show (if (0 : Int32) ≤ p0 ∧ p0 ≤ (7 : Int32) then (1 : Int32) else 0) = 1 from if_pos c1) ?_
    refine v_iconst (v := (1 : Int32)) C eX12_word__8 (by decide) ?_
    refine n_callV (As := [.int ((1 : Int32)), .int ((1 : Int32))]) (rest := []) C I mX12_130 (rs_good1 I hN hC 1) (hN 49 (by decide)) hC.obj rfl (by decide) (by decide) ⟨by decide, by decide⟩ rfl (vi_k (vi_k rfl)) (Nat.le_of_ble_eq_true rfl) eX12_word__9 (fun r σ1 hp => ?_)
    obtain ⟨rfl, hC1, hk1⟩ := hp
    refine v_if_eq (tgt := 36) C eX12_word__12 (by decide) (fun h => absurd h (by decide)) (fun _ => ?_)
    obtain ⟨hu0, hu0e⟩ := ixN_of (n := 7) rfl c1
    generalize hgu0 : ixN p0 = u0 at hu0 hu0e
    have hru0 : rLn (50 + u0) = 65536 := rLn_slot _ (by omega)
    have hSu0 := hd.2 u0 (by omega)
    have hl65 := hSu0.2.1
    have hl0 : bt σ1 2 u0 = nI (S u0).length := by rw [bt_same (hk1 2 (by decide))]; exact hSu0.1
    refine v_aload_n C eX12_word__15 rfl 0 rfl ?_
    refine v_iload_n C eX12_word__16 rfl 2 rfl ?_
    refine v_iconst (v := (0 : Int32)) C eX12_word__17 (by decide) ?_
    refine v_aload_n C eX12_word__18 rfl 0 rfl ?_
    refine n_get C I fX12_19_X12 eX12_word__19 (hN 49 (by decide)) hC1.obj rfl ?_
    refine v_iload_n C eX12_word__22 rfl 1 rfl ?_
    refine n_iald C I eX12_word__23 (hN 2 (by decide)) hC1.len u0 hu0e (by omega) (by decide) ?_
    refine v_natT hl0 ?_
    refine v_iconst (v := (1 : Int32)) C eX12_word__24 (by decide) ?_
    refine v_isub C eX12_word__25 ?_
    refine n_callS (av := [.int p1, .int ((0 : Int32)), .int ((nI (S u0).length) - ((1 : Int32)))]) (rest := [.ref (ad 49)]) C mX12_138 (c_in p1 ((0 : Int32)) ((nI (S u0).length) - ((1 : Int32)))) rfl (by decide) (by decide) ⟨by decide, by decide⟩ rfl (vi_k (vi_k (vi_k rfl))) (Nat.le_of_ble_eq_true rfl) eX12_word__26 (fun r ρ hp => ?_)
    obtain ⟨rfl, hρ⟩ := hp
    rw [hρ]
    clear hρ ρ
    by_cases c3 : 0 ≤ p1 ∧ p1 ≤ (nI (S u0).length) - (1 : Int32)
    · rw [if_pos c3]
      refine v_natT (show (if (0 : Int32) ≤ p1 ∧ p1 ≤ (nI (S u0).length) - ((1 : Int32)) then (1 : Int32) else 0) = 1 from if_pos c3) ?_
      refine v_iconst (v := (2 : Int32)) C eX12_word__29 (by decide) ?_
      refine n_callV (As := [.int ((1 : Int32)), .int ((2 : Int32))]) (rest := []) C I mX12_130 (rs_good1 I hN hC1 2) (hN 49 (by decide)) hC1.obj rfl (by decide) (by decide) ⟨by decide, by decide⟩ rfl (vi_k (vi_k rfl)) (Nat.le_of_ble_eq_true rfl) eX12_word__30 (fun r σ2 hp => ?_)
      obtain ⟨rfl, hC2, hk2⟩ := hp
      refine v_if_ne (tgt := 38) C eX12_word__33 (by decide) (fun _ => ?_) (fun h => absurd h (by decide))
      obtain ⟨hi, hie⟩ := len1 hl65 c3
      generalize hgi : ixN p1 = i1 at hi hie
      have k2 : ∀ k, ¬ (k = 49) → σ2 k = σ k := fun k hk => (hk2 k hk).trans (hk1 k hk)
      have hl2 : bt σ2 2 u0 = nI (S u0).length := by rw [bt_same (k2 2 (by decide))]; exact hSu0.1
      have hb : bt σ2 (50 + u0) = bt σ (50 + u0) := bt_same (k2 (50 + u0) (by omega))
      refine v_lconst (v := (0 : Int64)) C eX12_word__38 (by decide) ?_
      refine v_lstore_n (lv' := [(0, .ref (ad 49)), (1, .int p0), (2, .int p1), (3, .long ((0 : Int64)))]) C eX12_word__39 rfl (by decide) [1, 2, 3, 0] rfl ?_
      refine v_iload_n C eX12_word__40 rfl 2 rfl ?_
      refine v_natT (show p1 = nI (i1 + 0) from hie) ?_
      refine v_istore (lv' := [(0, .ref (ad 49)), (1, .int p0), (2, .int p1), (3, .long ((0 : Int64))), (5, .int (nI (i1 + 0)))]) C eX12_word__41 (by decide) [1, 2, 3, 4, 0] rfl ?_
      refine v_forP (fun q τ => τ = σ2) (fun q => [(0, .ref (ad 49)), (1, .int p0), (2, .int p1), (3, .long (wdS (S u0) i1 q)), (5, .int (nI (i1 + q)))]) 8 ?_ ?_ _ rfl
      · intro τ hI
        rw [hI]
        refine v_iload C eX12_word__43 4 rfl ?_
        refine v_iload_n C eX12_word__45 rfl 2 rfl ?_
        refine v_bipush (v := (8 : Int32)) C eX12_word__46 (by decide) ?_
        refine v_iadd C eX12_word__48 ?_
        refine v_icmp_ge (tgt := 93) C eX12_word__49 (by decide) (fun _ => ?_) (fun h => absurd (ix_le (a := i1 + 8) (b := i1 + 8) (ix_add (a := i1) (b := 8) hie (rfl : (8 : Int32) = nI 8)) (rfl : nI (i1 + 8) = nI (i1 + 8)) (by omega) (by omega) (by omega)) h)
        refine v_lload_n C eX12_word__93 rfl 3 rfl ?_
        exact n_lret C rfl eX12_word__94 ⟨rfl, ⟨upd (upd x 4 0) 4 0, hC2, rfl, hd.keep (fun k hk => k2 k (by omega))⟩, fun k hk => k2 k (by omega)⟩
      · intro q hq ih τ hI
        rw [hI]
        refine v_iload C eX12_word__43 4 rfl ?_
        refine v_iload_n C eX12_word__45 rfl 2 rfl ?_
        refine v_bipush (v := (8 : Int32)) C eX12_word__46 (by decide) ?_
        refine v_iadd C eX12_word__48 ?_
        refine v_icmp_ge (tgt := 93) C eX12_word__49 (by decide) (fun h => absurd h (ix_nle (a := i1 + 8) (b := i1 + q) (ix_add (a := i1) (b := 8) hie (rfl : (8 : Int32) = nI 8)) (rfl : nI (i1 + q) = nI (i1 + q)) (by omega) (by omega) (by omega))) (fun _ => ?_)
        refine v_lload_n C eX12_word__52 rfl 3 rfl ?_
        refine v_bipush (v := (8 : Int32)) C eX12_word__53 (by decide) ?_
        refine v_lshl C eX12_word__55 ?_
        refine v_iload C eX12_word__56 4 rfl ?_
        refine v_aload_n C eX12_word__58 rfl 0 rfl ?_
        refine n_get C I fX12_19_X12 eX12_word__59 (hN 49 (by decide)) hC2.obj rfl ?_
        refine v_iload_n C eX12_word__62 rfl 1 rfl ?_
        refine n_iald C I eX12_word__63 (hN 2 (by decide)) hC2.len u0 hu0e (by omega) (by decide) ?_
        by_cases c4 : i1 + q < (S u0).length
        · refine v_icmp_ge (tgt := 84) C eX12_word__64 (by decide) (fun h => absurd h (ix_nle (a := (S u0).length) (b := i1 + q) hl2 (rfl : nI (i1 + q) = nI (i1 + q)) (by omega) (by omega) (by omega))) (fun _ => ?_)
          refine v_aload_n C eX12_word__67 rfl 0 rfl ?_
          refine n_get C I fX12_16_X12 eX12_word__68 (hN 49 (by decide)) hC2.obj rfl ?_
          refine v_iload_n C eX12_word__71 rfl 1 rfl ?_
          refine n_aald (b := ad (50 + u0)) C I eX12_word__72 (hN 1 (by decide)) hC2.slot u0 hu0e (by omega) (by decide) (eRf_at (by omega)) ?_
          refine v_iload C eX12_word__73 4 rfl ?_
          refine n_bald C I eX12_word__75 (hN ((50 + u0)) (rLn_74 (Nat.lt_of_lt_of_eq (by decide) hru0.symm))) (hC2.b ((50 + u0)) 65536 hru0 (by decide)) (i1 + q) (rfl : nI (i1 + q) = nI (i1 + q)) (by omega) (by decide) ?_
          refine v_natT (show bt σ2 (50 + u0) (i1 + q) = (S u0).getD (i1 + q) 0 from by rw [hb]; exact ((congrArg (fun L : List Int32 => L.getD (i1 + q) 0) hSu0.2.2.1.symm).trans ((sl_at c4).trans (congrArg _ (Nat.zero_add _)))).symm) ?_
          refine v_i2l C eX12_word__76 ?_
          refine v_ldc2 (v := (255 : Int64)) C eX12_word__77 vw_1146 ?_
          refine v_land C eX12_word__80 ?_
          refine v_goto (tgt := 85) C eX12_word__81 (by decide) ?_
          refine v_lor C eX12_word__85 ?_
          refine v_topl (fun t1 ht1 => ?_)
          have e3 : t1 = wdS (S u0) i1 (q + 1) := by rw [ht1]; show _ = (_ ||| _); rw [if_pos c4]
          subst e3
          refine v_lstore_n (lv' := [(0, .ref (ad 49)), (1, .int p0), (2, .int p1), (3, .long (wdS (S u0) i1 (q + 1))), (5, .int (nI (i1 + q)))]) C eX12_word__86 rfl (by decide) [1, 2, 3, 0, 4] rfl ?_
          refine v_iinc (lv' := [(0, .ref (ad 49)), (1, .int p0), (2, .int p1), (3, .long (wdS (S u0) i1 (q + 1))), (5, .int (nI (i1 + q + 1)))]) C eX12_word__87 4 rfl (ix_inc _) (by decide) [1, 2, 3, 4, 0] rfl ?_
          refine v_goto (tgt := 43) C eX12_word__90 (by decide) ?_
          exact ih _ rfl
        · refine v_icmp_ge (tgt := 84) C eX12_word__64 (by decide) (fun _ => ?_) (fun h => absurd (ix_le (a := (S u0).length) (b := i1 + q) hl2 (rfl : nI (i1 + q) = nI (i1 + q)) (by omega) (by omega) (by omega)) h)
          refine v_lconst (v := (0 : Int64)) C eX12_word__84 (by decide) ?_
          refine v_lor C eX12_word__85 ?_
          refine v_topl (fun t2 ht2 => ?_)
          have e3 : t2 = wdS (S u0) i1 (q + 1) := by rw [ht2]; show _ = (_ ||| _); rw [if_neg c4]
          subst e3
          refine v_lstore_n (lv' := [(0, .ref (ad 49)), (1, .int p0), (2, .int p1), (3, .long (wdS (S u0) i1 (q + 1))), (5, .int (nI (i1 + q)))]) C eX12_word__86 rfl (by decide) [1, 2, 3, 0, 4] rfl ?_
          refine v_iinc (lv' := [(0, .ref (ad 49)), (1, .int p0), (2, .int p1), (3, .long (wdS (S u0) i1 (q + 1))), (5, .int (nI (i1 + q + 1)))]) C eX12_word__87 4 rfl (ix_inc _) (by decide) [1, 2, 3, 4, 0] rfl ?_
          refine v_goto (tgt := 43) C eX12_word__90 (by decide) ?_
          exact ih _ rfl
    · rw [if_neg c3]
      refine v_natT (show (if (0 : Int32) ≤ p1 ∧ p1 ≤ (nI (S u0).length) - ((1 : Int32)) then (1 : Int32) else 0) = 0 from if_neg c3) ?_
      refine v_iconst (v := (2 : Int32)) C eX12_word__29 (by decide) ?_
      refine n_callV (As := [.int ((0 : Int32)), .int ((2 : Int32))]) (rest := []) C I mX12_130 (rs_good0 I hN hC1 2) (hN 49 (by decide)) hC1.obj rfl (by decide) (by decide) ⟨by decide, by decide⟩ rfl (vi_k (vi_k rfl)) (Nat.le_of_ble_eq_true rfl) eX12_word__30 (fun r σ2 hp => ?_)
      obtain ⟨rfl, hC2, hk2⟩ := hp
      refine v_if_ne (tgt := 38) C eX12_word__33 (by decide) (fun h => absurd (by decide) h) (fun _ => ?_)
      refine v_lconst (v := (0 : Int64)) C eX12_word__36 (by decide) ?_
      exact n_lret C rfl eX12_word__37 ⟨rfl, ⟨upd _ 4 2, hC2, rfl, hd.keep (fun k hk => (hk2 k (by omega)).trans (hk1 k (by omega)))⟩, fun k hk => (hk2 k (by omega)).trans (hk1 k (by omega))⟩
  · rw [show sp_word S p0 p1 = (1, 0) from if_neg c1]
    refine v_natT (show (if (0 : Int32) ≤ p0 ∧ p0 ≤ (7 : Int32) then (1 : Int32) else 0) = 0 from if_neg c1) ?_
    refine v_iconst (v := (1 : Int32)) C eX12_word__8 (by decide) ?_
    refine n_callV (As := [.int ((0 : Int32)), .int ((1 : Int32))]) (rest := []) C I mX12_130 (rs_good0 I hN hC 1) (hN 49 (by decide)) hC.obj rfl (by decide) (by decide) ⟨by decide, by decide⟩ rfl (vi_k (vi_k rfl)) (Nat.le_of_ble_eq_true rfl) eX12_word__9 (fun r σ1 hp => ?_)
    obtain ⟨rfl, hC1, hk1⟩ := hp
    refine v_if_eq (tgt := 36) C eX12_word__12 (by decide) (fun _ => ?_) (fun h => absurd rfl h)
    refine v_lconst (v := (0 : Int64)) C eX12_word__36 (by decide) ?_
    exact n_lret C rfl eX12_word__37 ⟨rfl, ⟨upd _ 4 1, hC1, rfl, hd.keep (fun k hk => hk1 k (by omega))⟩, fun k hk => hk1 k (by omega)⟩

set_option maxRecDepth 100000 in
set_option maxHeartbeats 4000000 in
theorem ra_slhKeys (I : nI1 ad N) (hN : ∀ k, k < 74 → k < N) {S : sT} {T : List Int32} {cd0 : Int32} (hA : RA G ad θ S T cd0 σ) (p0 : Int32) : nOk G B l ad N yX12_slhKeys cX12_slhKeys 2 (some .int) 41 0 0 [.ref (ad 49), .int p0] σ (fun r σ' => r = some (.int (sp_keys θ S T p0).2.1) ∧ RA G ad θ ((sp_keys θ S T p0).2.2.1) ((sp_keys θ S T p0).2.2.2) ((sp_keys θ S T p0).1) σ' ∧ (∀ k, 74 ≤ k → σ' k = σ k)) := by
  refine vOk.of (by decide +kernel) (Nat.le_of_ble_eq_true rfl) ?_
  intro p e s m args below meth c C
  refine v_eq (lv' := [(0, .ref (ad 49)), (1, .int p0)]) rfl rfl rfl ?_
  obtain ⟨x, hC, hcd, hd⟩ := hA
  refine v_aload_n C eX12_slhKeys_0 rfl 0 rfl ?_
  refine v_iload_n C eX12_slhKeys_1 rfl 1 rfl ?_
  refine v_iconst (v := (0 : Int32)) C eX12_slhKeys_2 (by decide) ?_
  refine v_bipush (v := (11 : Int32)) C eX12_slhKeys_3 (by decide) ?_
  refine n_callS (av := [.int p0, .int ((0 : Int32)), .int ((11 : Int32))]) (rest := [.ref (ad 49)]) C mX12_138 (c_in p0 ((0 : Int32)) ((11 : Int32))) rfl (by decide) (by decide) ⟨by decide, by decide⟩ rfl (vi_k (vi_k (vi_k rfl))) (Nat.le_of_ble_eq_true rfl) eX12_slhKeys_5 (fun r ρ hp => ?_)
  obtain ⟨rfl, hρ⟩ := hp
  rw [hρ]
  clear hρ ρ
  by_cases c1 : 0 ≤ p0 ∧ p0 ≤ 11
  · refine v_natT (show (if (0 : Int32) ≤ p0 ∧ p0 ≤ (11 : Int32) then (1 : Int32) else 0) = 1 from if_pos c1) ?_
    refine v_iconst (v := (1 : Int32)) C eX12_slhKeys_8 (by decide) ?_
    refine n_callV (As := [.int ((1 : Int32)), .int ((1 : Int32))]) (rest := []) C I mX12_130 (rs_good1 I hN hC 1) (hN 49 (by decide)) hC.obj rfl (by decide) (by decide) ⟨by decide, by decide⟩ rfl (vi_k (vi_k rfl)) (Nat.le_of_ble_eq_true rfl) eX12_slhKeys_9 (fun r σ1 hp => ?_)
    obtain ⟨rfl, hC1, hk1⟩ := hp
    refine v_if_ne (tgt := 17) C eX12_slhKeys_12 (by decide) (fun _ => ?_) (fun h => absurd h (by decide))
    rw [show sp_keys θ S T p0 = (if (S 0).length = 3 * pN (ixN p0) then (0, nI (4 * pN (ixN p0)), seti (seti S 1 (lsl (S 0) (2 * pN (ixN p0)) (pN (ixN p0)) ++ keyR θ (ixN p0) (S 0))) 2 (S 0 ++ keyR θ (ixN p0) (S 0)), T) else (2, 0, S, T)) from if_pos c1]
    obtain ⟨hp, hpe⟩ := ixN_of (n := 11) rfl c1
    generalize hgs : ixN p0 = s0 at hp hpe
    have hok := set_ok s0 (by omega)
    have hnn := hok.1
    refine v_aload_n C eX12_slhKeys_17 rfl 0 rfl ?_
    refine v_iload_n C eX12_slhKeys_18 rfl 1 rfl ?_
    refine n_callV (As := [.int (nI s0)]) (rest := []) C I mX12_318 (rs_slh I hN hC1 s0 (by omega)) (hN 49 (by decide)) hC1.obj rfl (by decide) (by decide) ⟨by decide, by decide⟩ rfl (vi_c hpe rfl) (Nat.le_of_ble_eq_true rfl) eX12_slhKeys_19 (fun r σ2 hp => ?_)
    obtain ⟨rfl, hC2, hk2⟩ := hp
    have k2 : ∀ k, ¬ (k = 28 ∨ k = 49) → σ2 k = σ k := fun k hk => (hk2 k hk).trans (hk1 k (by omega))
    have hS0 := hd.2 0 (by decide)
    have h650 := hS0.2.1
    refine v_aload_n C eX12_slhKeys_22 rfl 0 rfl ?_
    refine v_aload_n C eX12_slhKeys_23 rfl 0 rfl ?_
    refine n_get C I fX12_19_X12 eX12_slhKeys_24 (hN 49 (by decide)) hC2.obj rfl ?_
    refine v_iconst (v := (0 : Int32)) C eX12_slhKeys_27 (by decide) ?_
    refine n_iald C I eX12_slhKeys_28 (hN 2 (by decide)) hC2.len 0 (rfl : (0 : Int32) = nI 0) (by omega) (by decide) ?_
    refine v_iconst (v := (3 : Int32)) C eX12_slhKeys_29 (by decide) ?_
    refine v_aload_n C eX12_slhKeys_30 rfl 0 rfl ?_
    refine n_get C I fX12_243_X12 eX12_slhKeys_31 (hN 49 (by decide)) hC2.obj rfl ?_
    refine v_imul C eX12_slhKeys_34 ?_
    by_cases c2 : (S 0).length = 3 * pN s0
    · refine v_icmp_ne (tgt := 42) C eX12_slhKeys_35 (by decide) (fun h => absurd (ix_eq (a := (S 0).length) (b := 3 * (pN s0)) (by rw [bt_same (k2 2 (by decide))]; exact (hd.2 0 (by decide)).1) (ix_mul (a := 3) (b := pN s0) (rfl : (3 : Int32) = nI 3) (hC2.i41.trans (rfl : _ = nI (pN s0)))) (by omega) (by omega) (by omega)) h) (fun _ => ?_)
      rw [if_pos c2]
      refine v_iconst (v := (1 : Int32)) C eX12_slhKeys_38 (by decide) ?_
      refine v_goto (tgt := 43) C eX12_slhKeys_39 (by decide) ?_
      refine v_iconst (v := (2 : Int32)) C eX12_slhKeys_43 (by decide) ?_
      refine n_callV (As := [.int ((1 : Int32)), .int ((2 : Int32))]) (rest := []) C I mX12_130 (rs_good1 I hN hC2 2) (hN 49 (by decide)) hC2.obj rfl (by decide) (by decide) ⟨by decide, by decide⟩ rfl (vi_k (vi_k rfl)) (Nat.le_of_ble_eq_true rfl) eX12_slhKeys_44 (fun r σ3 hp => ?_)
      obtain ⟨rfl, hC3, hk3⟩ := hp
      refine v_if_ne (tgt := 52) C eX12_slhKeys_47 (by decide) (fun _ => ?_) (fun h => absurd h (by decide))
      refine v_pick (lv' := [(0, .ref (ad 49))]) [0] rfl ?_
      have k3 : ∀ k, ¬ (k = 28 ∨ k = 49) → σ3 k = σ k := fun k hk => (hk3 k (by omega)).trans (k2 k hk)
      have hr0 : sl (bt σ3 50) 0 (3 * pN s0) = S 0 := by rw [bt_same (k3 50 (by decide)), ← c2]; exact hS0.2.2.1
      refine rs_keysB I hN C hC3 (sh := shB s0) (nn := pN s0) (hh := pP s0) rfl hnn rfl hok.2.1.2 rfl sh_eq (dd := pD s0) rfl hok.2.2.2.2.2.2.2.1 (by rw [hr0]; exact hS0.2.2.2) rfl (by decide) (fun r σ' h => ?_)
      obtain ⟨h1, h2, h3, h4, h5, h6⟩ := h
      rw [sl_lsl (f := bt σ3 50) (a := 2 * pN s0) (m := 3 * pN s0) (by omega), sl_lsl (f := bt σ3 50) (a := 0) (n := pN s0) (m := 3 * pN s0) (by omega), hr0] at h5 h6
      have kl : (keyR θ s0 (S 0)).length = pN s0 := nodeL_len _ _
      have kw : nrw (keyR θ s0 (S 0)) := nrw_nodeL _ _
      have ll : (lsl (S 0) (2 * pN s0) (pN s0)).length = pN s0 := lsl_len (by omega)
      have l1 : (lsl (S 0) (2 * pN s0) (pN s0) ++ keyR θ s0 (S 0)).length = 2 * pN s0 := by rw [List.length_append, ll, kl]; omega
      have l2 : (S 0 ++ keyR θ s0 (S 0)).length = 4 * pN s0 := by rw [List.length_append, c2, kl]; omega
      refine ⟨h1, ⟨_, h2, rfl, ?_⟩, fun k hk => (h3 k (by omega)).trans (k3 k (by omega))⟩
      refine hd.set2 (by decide) (fun k hk => (h3 k (by omega)).trans (k3 k (by omega))) (by rw [l1, l2, h4, bt_same (k3 2 (by decide))]) (by rw [l1]; omega) (by rw [l1]; exact h5) (nrw_app (fun v hv => hS0.2.2.2 v (List.mem_of_mem_drop (List.mem_of_mem_take hv))) kw) (by rw [l2]; omega) (by rw [l2]; exact h6) (nrw_app hS0.2.2.2 kw)
    · refine v_icmp_ne (tgt := 42) C eX12_slhKeys_35 (by decide) (fun _ => ?_) (fun h => absurd h (ix_ne (a := (S 0).length) (b := 3 * (pN s0)) (by rw [bt_same (k2 2 (by decide))]; exact (hd.2 0 (by decide)).1) (ix_mul (a := 3) (b := pN s0) (rfl : (3 : Int32) = nI 3) (hC2.i41.trans (rfl : _ = nI (pN s0)))) (by omega) (by omega) (by omega)))
      rw [if_neg c2]
      refine v_iconst (v := (0 : Int32)) C eX12_slhKeys_42 (by decide) ?_
      refine v_iconst (v := (2 : Int32)) C eX12_slhKeys_43 (by decide) ?_
      refine n_callV (As := [.int ((0 : Int32)), .int ((2 : Int32))]) (rest := []) C I mX12_130 (rs_good0 I hN hC2 2) (hN 49 (by decide)) hC2.obj rfl (by decide) (by decide) ⟨by decide, by decide⟩ rfl (vi_k (vi_k rfl)) (Nat.le_of_ble_eq_true rfl) eX12_slhKeys_44 (fun r σ3 hp => ?_)
      obtain ⟨rfl, hC3, hk3⟩ := hp
      refine v_if_ne (tgt := 52) C eX12_slhKeys_47 (by decide) (fun h => absurd (by decide) h) (fun _ => ?_)
      refine v_iconst (v := (0 : Int32)) C eX12_slhKeys_50 (by decide) ?_
      exact n_iret C rfl eX12_slhKeys_51 ⟨rfl, ⟨upd _ 4 2, hC3, rfl, hd.keep (fun k hk => (hk3 k (by omega)).trans (k2 k (by omega)))⟩, fun k hk => (hk3 k (by omega)).trans (k2 k (by omega))⟩
  · rw [show sp_keys θ S T p0 = (1, 0, S, T) from if_neg c1]
    refine v_natT (show (if (0 : Int32) ≤ p0 ∧ p0 ≤ (11 : Int32) then (1 : Int32) else 0) = 0 from if_neg c1) ?_
    refine v_iconst (v := (1 : Int32)) C eX12_slhKeys_8 (by decide) ?_
    refine n_callV (As := [.int ((0 : Int32)), .int ((1 : Int32))]) (rest := []) C I mX12_130 (rs_good0 I hN hC 1) (hN 49 (by decide)) hC.obj rfl (by decide) (by decide) ⟨by decide, by decide⟩ rfl (vi_k (vi_k rfl)) (Nat.le_of_ble_eq_true rfl) eX12_slhKeys_9 (fun r σ1 hp => ?_)
    obtain ⟨rfl, hC1, hk1⟩ := hp
    refine v_if_ne (tgt := 17) C eX12_slhKeys_12 (by decide) (fun h => absurd (by decide) h) (fun _ => ?_)
    refine v_iconst (v := (0 : Int32)) C eX12_slhKeys_15 (by decide) ?_
    exact n_iret C rfl eX12_slhKeys_16 ⟨rfl, ⟨upd _ 4 1, hC1, rfl, hd.keep (fun k hk => hk1 k (by omega))⟩, fun k hk => hk1 k (by omega)⟩

end M32
