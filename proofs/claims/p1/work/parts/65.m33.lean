
theorem how_eq {h : Int32} (c : -1 ≤ h ∧ h ≤ 0) : h = howI (hwB h) := by
  have h1 : (-1 : Int32).toInt ≤ h.toInt := Int32.le_iff_toInt_le.mp c.1
  have h2 : h.toInt ≤ (0 : Int32).toInt := Int32.le_iff_toInt_le.mp c.2
  have e1 : (-1 : Int32).toInt = -1 := by decide
  have e2 : (0 : Int32).toInt = 0 := by decide
  rw [e1] at h1
  rw [e2] at h2
  by_cases q : h = 0
  · subst q; rfl
  · have : h.toInt = -1 := by
      have : h.toInt ≠ 0 := fun e => q (Int32.toInt_inj.mp (by rw [e, e2]))
      omega
    have e : h = -1 := Int32.toInt_inj.mp (by rw [this, e1])
    subst e; rfl
theorem hwB_how {b : Bool} : hwB (howI b) = b := by cases b <;> rfl
section M33
variable {G : vG} {B : Nat} {l : Launch} {ad : Nat → Nat} {N : Nat} {θ : tT} {σ : nS}
set_option maxRecDepth 100000 in
set_option maxHeartbeats 4000000 in
theorem rs_signX (I : nI1 ad N) (hN : ∀ k, k < 74 → k < N) {p : Program} {e : Env} {R : Room} {s : State} {m : MethodId} {args : Array Value} {below : List Frame} {meth : Method} {c : Code}  (C : vC G B p m meth c cX12_slhSign 8 (some .int) s args yX12_slhSign.cls) {S : sT} {T : List Int32} {σ0 : nS} {x y : Nat → Int32} {s0 : Nat} (hC : RS G ad θ y σ) (y3 : y 3 = x 3) (y4 : y 4 = 0) (y41 : y 41 = nI (pN s0)) (y42 : y 42 = nI (pH s0)) (y43 : y 43 = nI (pD s0)) (y44 : y 44 = nI (pP s0)) (y45 : y 45 = nI (pA s0)) (y46 : y 46 = nI (pK s0)) (y47 : y 47 = nI (2 * pN s0 + 3)) (y48 : y 48 = if shB s0 = true then 1 else 0) (hs : s0 < 12) (hd : RAd S T σ0 (x 3)) (k4 : ∀ k, ¬ (k = 28 ∨ k = 49) → σ k = σ0 k) (c4 : (S 0).length = pN s0 ∨ (S 0).length = 0) (c5 : (S 2).length = 4 * pN s0) (hw : Bool) {d1 : Nat} (hR : R = vRm d1 0 0) (hd1 : 40 ≤ d1) : V G B p l e R s m args below meth c 8 0 0 (MQ below (vQ G B (fun r w' => ∃ σ' : nS, w' = nW ad N σ' ∧ (r = some (.int (0, nI (spL s0), seti S 5 (sgAll θ s0 hw S), T).2.1) ∧ RA G ad θ (0, nI (spL s0), seti S 5 (sgAll θ s0 hw S), T).2.2.1 (0, nI (spL s0), seti S 5 (sgAll θ s0 hw S), T).2.2.2 (0, nI (spL s0), seti S 5 (sgAll θ s0 hw S), T).1 σ' ∧ (∀ k, 74 ≤ k → σ' k = σ0 k)))) args s 0 0 (fun q => B ≤ q)) (nW ad N σ) 112 [(0, .ref (ad 49)), (2, .int (howI hw))] [] := by
  have hok := set_ok s0 hs
  have hnn := hok.1
  have hS0 := hd.2 0 (by decide)
  have hS2 := hd.2 2 (by decide)
  have hS3 := hd.2 3 (by decide)
  have hS4 := hd.2 4 (by decide)
  have r2 : sl (bt σ 52) 0 (4 * pN s0) = S 2 := by rw [bt_same (k4 52 (by decide)), ← c5]; exact hS2.2.2.1
  have q2 : ∀ a, a + pN s0 ≤ 4 * pN s0 → sl (bt σ 52) a (pN s0) = lsl (S 2) a (pN s0) := fun a ha => by rw [sl_lsl (m := 4 * pN s0) ha, r2]
  have h2 : bt σ 2 = bt σ0 2 := bt_same (k4 2 (by decide))
  have wl : ∀ a n, nrw (lsl (S 2) a n) := fun a n v hv => hS2.2.2.2 v (List.mem_of_mem_drop (List.mem_of_mem_take hv))
  have r0 : (S 0).length ≠ 0 → sl (bt σ 50) 0 (pN s0) = S 0 := fun h => by
    have e : (S 0).length = pN s0 := c4.resolve_right h
    rw [bt_same (k4 50 (by decide)), ← e]; exact hS0.2.2.1
  have hopt : (if (S 0).length = 0 then sl (bt σ 52) (2 * pN s0) (pN s0) else sl (bt σ 50) 0 (pN s0)) = (if (S 0).length = 0 then lsl (S 2) (2 * pN s0) (pN s0) else S 0) := by
    by_cases q : (S 0).length = 0
    · rw [if_pos q, if_pos q, q2 _ (by omega)]
    · rw [if_neg q, if_neg q, r0 q]
  refine rs_signA I hN C hC hw y41 hnn (l0 := (S 0).length) (by rw [h2]; exact hS0.1) hS0.2.1 (fun q => by rw [r0 q]; exact hS0.2.2.2) (by rw [r2]; exact hS2.2.2.2) hR (by omega) (fun σ6 h6 => ?_)
  obtain ⟨hC6, hk6, h38, h37, h40, h39⟩ := h6
  rw [q2 _ (by omega)] at h38 h37 h40
  rw [hopt] at h39
  have k6 : ∀ k, ¬ (k = 28 ∨ k = 37 ∨ k = 38 ∨ k = 39 ∨ k = 40 ∨ k = 49) → σ6 k = σ0 k := fun k hk => (hk6 k (by omega)).trans (k4 k (by omega))
  refine rs_signB I hN C hC6 hw y41 hnn y48 (l3 := (S 3).length) (l4 := (S 4).length) (by rw [bt_same (k6 2 (by decide))]; exact hS3.1) (by rw [bt_same (k6 2 (by decide))]; exact hS4.1) hS3.2.1 hS4.2.1 (by rw [bt_same (hk6 52 (by decide)), q2 _ (by omega)]; exact wl _ _) hR (by omega) (fun σ7 h7 => ?_)
  obtain ⟨hC7, hk7, h27⟩ := h7
  have k7 : ∀ k, ¬ (13 ≤ k ∧ k ≤ 17 ∨ k = 22 ∨ k = 23 ∨ k = 27 ∨ k = 28 ∨ k = 37 ∨ k = 38 ∨ k = 39 ∨ k = 40 ∨ k = 49) → σ7 k = σ0 k := fun k hk => (hk7 k (by omega)).trans (k6 k (by omega))
  have m4 : sl (bt σ0 54) 0 (S 4).length = S 4 := hS4.2.2.1
  have m3 : sl (bt σ0 53) 0 (S 3).length = S 3 := hS3.2.2.1
  have h27' : bt σ7 27 = wr (bt σ6 27) 0 (sgRn θ s0 hw S) := by
    rw [h27, h39, bt_same (hk6 52 (by decide)), q2 _ (by omega), bt_same (k6 54 (by decide)), bt_same (k6 53 (by decide)), m4, m3]
    rfl
  have hRl : (sgRn θ s0 hw S).length = pN s0 := rnL_len
  refine rs_signC I hN C hC7 (P := lsl (S 2) (2 * pN s0) (pN s0)) (K := lsl (S 2) 0 (pN s0)) y41 hnn y42 y43 y44 hok.2.1 y45 hok.2.2.1 y46 hok.2.2.2.1 y47 y48 hok.2.2.2.2.1 hok.2.2.2.2.2.1 hok.2.2.2.2.2.2.1 (mm := spM s0) rfl hok.2.2.2.2.2.2.2.2.1 hw (l3 := (S 3).length) (l4 := (S 4).length) (by rw [bt_same (k7 2 (by decide))]; exact hS3.1) (by rw [bt_same (k7 2 (by decide))]; exact hS4.1) hS3.2.1 hS4.2.1 (Rr := sgRn θ s0 hw S) (Qr := lsl (S 2) (3 * pN s0) (pN s0)) hRl h27' (by rw [h27', sl_wr' hRl]) (by rw [bt_same (hk7 37 (by decide))]; exact h37) (by rw [bt_same (hk7 38 (by decide))]; exact h38) (by rw [bt_same (hk7 40 (by decide))]; exact h40) nrw_rnL (wl _ _) (L5 := spL s0) rfl hok.2.2.2.2.2.2.2.2.2.1 hR hd1 (fun r σ' h => ?_)
  obtain ⟨h1, h2', h3, h4, h5⟩ := h
  rw [bt_same (k7 54 (by decide)), bt_same (k7 53 (by decide)), m4, m3] at h5
  have hl : (sgAll θ s0 hw S).length = spL s0 := by rw [show sgAll θ s0 hw S = _ from h5.symm, sl_len]
  refine ⟨h1, ⟨y, h2', y4, ?_⟩, fun k hk => (h3 k (by omega)).trans (k7 k (by omega))⟩
  rw [y3]
  exact hd.set (fun k hk => (h3 k (by omega)).trans (k7 k (by omega))) (by rw [hl, h4, bt_same (k7 2 (by decide))]) (by rw [hl]; exact hok.2.2.2.2.2.2.2.2.2.1) (by rw [hl]; exact h5) (syP_nrw (nrw_app nrw_rnL nrw_sfL) _)
set_option maxRecDepth 100000 in
set_option maxHeartbeats 4000000 in
theorem ra_slhSign (I : nI1 ad N) (hN : ∀ k, k < 74 → k < N) {S : sT} {T : List Int32} {cd0 : Int32} (hA : RA G ad θ S T cd0 σ) (p0 p1 : Int32) : nOk G B l ad N yX12_slhSign cX12_slhSign 8 (some .int) 41 0 0 [.ref (ad 49), .int p0, .int p1] σ (fun r σ' => r = some (.int (sp_sign θ S T p0 p1).2.1) ∧ RA G ad θ ((sp_sign θ S T p0 p1).2.2.1) ((sp_sign θ S T p0 p1).2.2.2) ((sp_sign θ S T p0 p1).1) σ' ∧ (∀ k, 74 ≤ k → σ' k = σ k)) := by
  refine vOk.of (by decide +kernel) (Nat.le_of_ble_eq_true rfl) ?_
  intro p e s m args below meth c C
  refine v_eq (lv' := [(0, .ref (ad 49)), (1, .int p0), (2, .int p1)]) rfl rfl rfl ?_
  obtain ⟨x, hC, hcd, hd⟩ := hA
  refine v_aload_n C eX12_slhSign_0 rfl 0 rfl ?_
  refine v_iload_n C eX12_slhSign_1 rfl 1 rfl ?_
  refine v_iconst (v := (0 : Int32)) C eX12_slhSign_2 (by decide) ?_
  refine v_bipush (v := (11 : Int32)) C eX12_slhSign_3 (by decide) ?_
  refine n_callS (av := [.int p0, .int ((0 : Int32)), .int ((11 : Int32))]) (rest := [.ref (ad 49)]) C mX12_138 (c_in p0 ((0 : Int32)) ((11 : Int32))) rfl (by decide) (by decide) ⟨by decide, by decide⟩ rfl (vi_k (vi_k (vi_k rfl))) (Nat.le_of_ble_eq_true rfl) eX12_slhSign_5 (fun r ρ hp => ?_)
  obtain ⟨rfl, hρ⟩ := hp
  rw [hρ]
  clear hρ ρ
  by_cases c1 : 0 ≤ p0 ∧ p0 ≤ 11
  · refine v_natT (show (if (0 : Int32) ≤ p0 ∧ p0 ≤ (11 : Int32) then (1 : Int32) else 0) = 1 from if_pos c1) ?_
    refine v_if_eq (tgt := 24) C eX12_slhSign_8 (by decide) (fun h => absurd h (by decide)) (fun _ => ?_)
    refine v_iload_n C eX12_slhSign_11 rfl 2 rfl ?_
    refine v_iconst (v := (-1 : Int32)) C eX12_slhSign_12 (by decide) ?_
    refine v_iconst (v := (0 : Int32)) C eX12_slhSign_13 (by decide) ?_
    refine n_callS (av := [.int p1, .int ((-1 : Int32)), .int ((0 : Int32))]) (rest := [.ref (ad 49)]) C mX12_138 (c_in p1 ((-1 : Int32)) ((0 : Int32))) rfl (by decide) (by decide) ⟨by decide, by decide⟩ rfl (vi_k (vi_k (vi_k rfl))) (Nat.le_of_ble_eq_true rfl) eX12_slhSign_14 (fun r ρ hp => ?_)
    obtain ⟨rfl, hρ⟩ := hp
    rw [hρ]
    clear hρ ρ
    by_cases c2 : (-1 : Int32) ≤ p1 ∧ p1 ≤ (0 : Int32)
    · refine v_natT (show (if (-1 : Int32) ≤ p1 ∧ p1 ≤ (0 : Int32) then (1 : Int32) else 0) = 1 from if_pos c2) ?_
      refine v_if_eq (tgt := 24) C eX12_slhSign_17 (by decide) (fun h => absurd h (by decide)) (fun _ => ?_)
      refine v_iconst (v := (1 : Int32)) C eX12_slhSign_20 (by decide) ?_
      refine v_goto (tgt := 25) C eX12_slhSign_21 (by decide) ?_
      refine v_iconst (v := (1 : Int32)) C eX12_slhSign_25 (by decide) ?_
      refine n_callV (As := [.int ((1 : Int32)), .int ((1 : Int32))]) (rest := []) C I mX12_130 (rs_good1 I hN hC 1) (hN 49 (by decide)) hC.obj rfl (by decide) (by decide) ⟨by decide, by decide⟩ rfl (vi_k (vi_k rfl)) (Nat.le_of_ble_eq_true rfl) eX12_slhSign_26 (fun r σ1 hp => ?_)
      obtain ⟨rfl, hC1, hk1⟩ := hp
      refine v_if_ne (tgt := 34) C eX12_slhSign_29 (by decide) (fun _ => ?_) (fun h => absurd h (by decide))
      obtain ⟨hw, hpw⟩ : ∃ hw, p1 = howI hw := ⟨_, how_eq c2⟩
      subst hpw
      rw [show sp_sign θ S T p0 (howI hw) = (if (hw = false ∨ (S 4).length ≤ 255) ∧ ((S 0).length = pN (ixN p0) ∨ (S 0).length = 0) then (if (S 2).length = 4 * pN (ixN p0) then (0, nI (spL (ixN p0)), seti S 5 (sgAll θ (ixN p0) hw S), T) else (3, 0, S, T)) else (2, 0, S, T)) from by unfold sp_sign; rw [if_pos ⟨c1, c2⟩, hwB_how]]
      obtain ⟨hp, hpe⟩ := ixN_of (n := 11) rfl c1
      generalize hgs : ixN p0 = s0 at hp hpe
      have hok := set_ok s0 (by omega)
      have hnn := hok.1
      refine v_aload_n C eX12_slhSign_34 rfl 0 rfl ?_
      refine v_iload_n C eX12_slhSign_35 rfl 1 rfl ?_
      refine n_callV (As := [.int (nI s0)]) (rest := []) C I mX12_318 (rs_slh I hN hC1 s0 (by omega)) (hN 49 (by decide)) hC1.obj rfl (by decide) (by decide) ⟨by decide, by decide⟩ rfl (vi_c hpe rfl) (Nat.le_of_ble_eq_true rfl) eX12_slhSign_36 (fun r σ2 hp => ?_)
      obtain ⟨rfl, hC2, hk2⟩ := hp
      have k2 : ∀ k, ¬ (k = 28 ∨ k = 49) → σ2 k = σ k := fun k hk => (hk2 k hk).trans (hk1 k (by omega))
      have hS0 := hd.2 0 (by decide)
      have hS2 := hd.2 2 (by decide)
      have hS3 := hd.2 3 (by decide)
      have hS4 := hd.2 4 (by decide)
      have h650 := hS0.2.1
      have h652 := hS2.2.1
      refine v_aload_n C eX12_slhSign_39 rfl 0 rfl ?_
      refine v_aload_n C eX12_slhSign_40 rfl 0 rfl ?_
      refine v_iload_n C eX12_slhSign_41 rfl 2 rfl ?_
      refine n_callV (As := [.int (howI hw)]) (rest := [.ref (ad 49)]) C I mX12_325 (rs_context I hN hC2 hw (l4 := (S 4).length) (by rw [bt_same (k2 2 (by decide))]; exact hS4.1) hS4.2.1) (hN 49 (by decide)) hC2.obj rfl (by decide) (by decide) ⟨by decide, by decide⟩ rfl (vi_k rfl) (Nat.le_of_ble_eq_true rfl) eX12_slhSign_42 (fun r ρ hp => ?_)
      obtain ⟨rfl, hρ⟩ := hp
      rw [hρ]
      clear hρ ρ
      by_cases c3 : hw = false ∨ (S 4).length ≤ 255
      · refine v_natT (show (if hw = false ∨ (S 4).length ≤ 255 then (1 : Int32) else 0) = 1 from if_pos c3) ?_
        refine v_if_eq (tgt := 74) C eX12_slhSign_45 (by decide) (fun h => absurd h (by decide)) (fun _ => ?_)
        refine v_aload_n C eX12_slhSign_48 rfl 0 rfl ?_
        refine n_get C I fX12_19_X12 eX12_slhSign_49 (hN 49 (by decide)) hC2.obj rfl ?_
        refine v_iconst (v := (0 : Int32)) C eX12_slhSign_52 (by decide) ?_
        refine n_iald C I eX12_slhSign_53 (hN 2 (by decide)) hC2.len 0 (rfl : (0 : Int32) = nI 0) (by omega) (by decide) ?_
        refine v_aload_n C eX12_slhSign_54 rfl 0 rfl ?_
        refine n_get C I fX12_243_X12 eX12_slhSign_55 (hN 49 (by decide)) hC2.obj rfl ?_
        by_cases c4 : (S 0).length = pN s0
        · refine v_icmp_eq (tgt := 70) C eX12_slhSign_58 (by decide) (fun _ => ?_) (fun h => absurd (ix_eq (a := (S 0).length) (b := pN s0) (by rw [bt_same (k2 2 (by decide))]; exact (hd.2 0 (by decide)).1) (hC2.i41.trans (rfl : _ = nI (pN s0))) (by omega) (by omega) (by omega)) h)
          refine v_iconst (v := (1 : Int32)) C eX12_slhSign_70 (by decide) ?_
          refine v_goto (tgt := 75) C eX12_slhSign_71 (by decide) ?_
          rw [if_pos ⟨c3, (Or.inl c4)⟩]
          refine v_iconst (v := (2 : Int32)) C eX12_slhSign_75 (by decide) ?_
          refine n_callV (As := [.int ((1 : Int32)), .int ((2 : Int32))]) (rest := []) C I mX12_130 (rs_good1 I hN hC2 2) (hN 49 (by decide)) hC2.obj rfl (by decide) (by decide) ⟨by decide, by decide⟩ rfl (vi_k (vi_k rfl)) (Nat.le_of_ble_eq_true rfl) eX12_slhSign_76 (fun r σ3 hp => ?_)
          obtain ⟨rfl, hC3, hk3⟩ := hp
          refine v_if_eq (tgt := 110) C eX12_slhSign_79 (by decide) (fun h => absurd h (by decide)) (fun _ => ?_)
          have k3 : ∀ k, ¬ (k = 28 ∨ k = 49) → σ3 k = σ k := fun k hk => (hk3 k (by omega)).trans (k2 k hk)
          refine v_aload_n C eX12_slhSign_82 rfl 0 rfl ?_
          refine v_aload_n C eX12_slhSign_83 rfl 0 rfl ?_
          refine n_get C I fX12_19_X12 eX12_slhSign_84 (hN 49 (by decide)) hC3.obj rfl ?_
          refine v_iconst (v := (2 : Int32)) C eX12_slhSign_87 (by decide) ?_
          refine n_iald C I eX12_slhSign_88 (hN 2 (by decide)) hC3.len 2 (rfl : (2 : Int32) = nI 2) (by omega) (by decide) ?_
          refine v_iconst (v := (4 : Int32)) C eX12_slhSign_89 (by decide) ?_
          refine v_aload_n C eX12_slhSign_90 rfl 0 rfl ?_
          refine n_get C I fX12_243_X12 eX12_slhSign_91 (hN 49 (by decide)) hC3.obj rfl ?_
          refine v_imul C eX12_slhSign_94 ?_
          by_cases c5 : (S 2).length = 4 * pN s0
          · refine v_icmp_ne (tgt := 102) C eX12_slhSign_95 (by decide) (fun h => absurd (ix_eq (a := (S 2).length) (b := 4 * (pN s0)) (by rw [bt_same (k3 2 (by decide))]; exact (hd.2 2 (by decide)).1) (ix_mul (a := 4) (b := pN s0) (rfl : (4 : Int32) = nI 4) (hC3.i41.trans (rfl : _ = nI (pN s0)))) (by omega) (by omega) (by omega)) h) (fun _ => ?_)
            rw [if_pos c5]
            refine v_iconst (v := (1 : Int32)) C eX12_slhSign_98 (by decide) ?_
            refine v_goto (tgt := 103) C eX12_slhSign_99 (by decide) ?_
            refine v_iconst (v := (3 : Int32)) C eX12_slhSign_103 (by decide) ?_
            refine n_callV (As := [.int ((1 : Int32)), .int ((3 : Int32))]) (rest := []) C I mX12_130 (rs_good1 I hN hC3 3) (hN 49 (by decide)) hC3.obj rfl (by decide) (by decide) ⟨by decide, by decide⟩ rfl (vi_k (vi_k rfl)) (Nat.le_of_ble_eq_true rfl) eX12_slhSign_104 (fun r σ4 hp => ?_)
            obtain ⟨rfl, hC4, hk4⟩ := hp
            refine v_if_ne (tgt := 112) C eX12_slhSign_107 (by decide) (fun _ => ?_) (fun h => absurd h (by decide))
            refine v_pick (lv' := [(0, .ref (ad 49)), (2, .int (howI hw))]) [0, 2] rfl ?_
            generalize hy : upd (upd (xS (upd x 4 0) s0) 4 0) 4 0 = y at hC4
            have y3 : y 3 = x 3 := by rw [← hy]; rfl
            have y4 : y 4 = 0 := by rw [← hy]; rfl
            have y41 : y 41 = nI (pN s0) := by rw [← hy]; rfl
            have y42 : y 42 = nI (pH s0) := by rw [← hy]; rfl
            have y43 : y 43 = nI (pD s0) := by rw [← hy]; rfl
            have y44 : y 44 = nI (pP s0) := by rw [← hy]; rfl
            have y45 : y 45 = nI (pA s0) := by rw [← hy]; rfl
            have y46 : y 46 = nI (pK s0) := by rw [← hy]; rfl
            have y47 : y 47 = nI (2 * pN s0 + 3) := by rw [← hy]; rfl
            have y48 : y 48 = if shB s0 = true then 1 else 0 := by rw [← hy]; exact sh_eq
            have k4 : ∀ k, ¬ (k = 28 ∨ k = 49) → σ4 k = σ k := fun k hk => (hk4 k (by omega)).trans (k3 k hk)
            exact rs_signX I hN C hC4 y3 y4 y41 y42 y43 y44 y45 y46 y47 y48 (by omega) hd k4 (Or.inl c4) c5 hw rfl (by decide)
          · refine v_icmp_ne (tgt := 102) C eX12_slhSign_95 (by decide) (fun _ => ?_) (fun h => absurd h (ix_ne (a := (S 2).length) (b := 4 * (pN s0)) (by rw [bt_same (k3 2 (by decide))]; exact (hd.2 2 (by decide)).1) (ix_mul (a := 4) (b := pN s0) (rfl : (4 : Int32) = nI 4) (hC3.i41.trans (rfl : _ = nI (pN s0)))) (by omega) (by omega) (by omega)))
            rw [if_neg c5]
            refine v_iconst (v := (0 : Int32)) C eX12_slhSign_102 (by decide) ?_
            refine v_iconst (v := (3 : Int32)) C eX12_slhSign_103 (by decide) ?_
            refine n_callV (As := [.int ((0 : Int32)), .int ((3 : Int32))]) (rest := []) C I mX12_130 (rs_good0 I hN hC3 3) (hN 49 (by decide)) hC3.obj rfl (by decide) (by decide) ⟨by decide, by decide⟩ rfl (vi_k (vi_k rfl)) (Nat.le_of_ble_eq_true rfl) eX12_slhSign_104 (fun r σ4 hp => ?_)
            obtain ⟨rfl, hC4, hk4⟩ := hp
            refine v_if_ne (tgt := 112) C eX12_slhSign_107 (by decide) (fun h => absurd (by decide) h) (fun _ => ?_)
            refine v_iconst (v := (0 : Int32)) C eX12_slhSign_110 (by decide) ?_
            exact n_iret C rfl eX12_slhSign_111 ⟨rfl, ⟨upd _ 4 3, hC4, rfl, hd.keep (fun k hk => (hk4 k (by omega)).trans (k3 k (by omega)))⟩, fun k hk => (hk4 k (by omega)).trans (k3 k (by omega))⟩
        · refine v_icmp_eq (tgt := 70) C eX12_slhSign_58 (by decide) (fun h => absurd h (ix_ne (a := (S 0).length) (b := pN s0) (by rw [bt_same (k2 2 (by decide))]; exact (hd.2 0 (by decide)).1) (hC2.i41.trans (rfl : _ = nI (pN s0))) (by omega) (by omega) (by omega))) (fun _ => ?_)
          refine v_aload_n C eX12_slhSign_61 rfl 0 rfl ?_
          refine n_get C I fX12_19_X12 eX12_slhSign_62 (hN 49 (by decide)) hC2.obj rfl ?_
          refine v_iconst (v := (0 : Int32)) C eX12_slhSign_65 (by decide) ?_
          refine n_iald C I eX12_slhSign_66 (hN 2 (by decide)) hC2.len 0 (rfl : (0 : Int32) = nI 0) (by omega) (by decide) ?_
          by_cases c6 : (S 0).length = 0
          · refine v_if_ne (tgt := 74) C eX12_slhSign_67 (by decide) (fun h => absurd (ix_eq (a := (S 0).length) (b := 0) (by rw [bt_same (k2 2 (by decide))]; exact (hd.2 0 (by decide)).1) (rfl : (0 : Int32) = nI 0) (by omega) (by omega) (by omega)) h) (fun _ => ?_)
            refine v_iconst (v := (1 : Int32)) C eX12_slhSign_70 (by decide) ?_
            refine v_goto (tgt := 75) C eX12_slhSign_71 (by decide) ?_
            rw [if_pos ⟨c3, (Or.inr c6)⟩]
            refine v_iconst (v := (2 : Int32)) C eX12_slhSign_75 (by decide) ?_
            refine n_callV (As := [.int ((1 : Int32)), .int ((2 : Int32))]) (rest := []) C I mX12_130 (rs_good1 I hN hC2 2) (hN 49 (by decide)) hC2.obj rfl (by decide) (by decide) ⟨by decide, by decide⟩ rfl (vi_k (vi_k rfl)) (Nat.le_of_ble_eq_true rfl) eX12_slhSign_76 (fun r σ3 hp => ?_)
            obtain ⟨rfl, hC3, hk3⟩ := hp
            refine v_if_eq (tgt := 110) C eX12_slhSign_79 (by decide) (fun h => absurd h (by decide)) (fun _ => ?_)
            have k3 : ∀ k, ¬ (k = 28 ∨ k = 49) → σ3 k = σ k := fun k hk => (hk3 k (by omega)).trans (k2 k hk)
            refine v_aload_n C eX12_slhSign_82 rfl 0 rfl ?_
            refine v_aload_n C eX12_slhSign_83 rfl 0 rfl ?_
            refine n_get C I fX12_19_X12 eX12_slhSign_84 (hN 49 (by decide)) hC3.obj rfl ?_
            refine v_iconst (v := (2 : Int32)) C eX12_slhSign_87 (by decide) ?_
            refine n_iald C I eX12_slhSign_88 (hN 2 (by decide)) hC3.len 2 (rfl : (2 : Int32) = nI 2) (by omega) (by decide) ?_
            refine v_iconst (v := (4 : Int32)) C eX12_slhSign_89 (by decide) ?_
            refine v_aload_n C eX12_slhSign_90 rfl 0 rfl ?_
            refine n_get C I fX12_243_X12 eX12_slhSign_91 (hN 49 (by decide)) hC3.obj rfl ?_
            refine v_imul C eX12_slhSign_94 ?_
            by_cases c5 : (S 2).length = 4 * pN s0
            · refine v_icmp_ne (tgt := 102) C eX12_slhSign_95 (by decide) (fun h => absurd (ix_eq (a := (S 2).length) (b := 4 * (pN s0)) (by rw [bt_same (k3 2 (by decide))]; exact (hd.2 2 (by decide)).1) (ix_mul (a := 4) (b := pN s0) (rfl : (4 : Int32) = nI 4) (hC3.i41.trans (rfl : _ = nI (pN s0)))) (by omega) (by omega) (by omega)) h) (fun _ => ?_)
              rw [if_pos c5]
              refine v_iconst (v := (1 : Int32)) C eX12_slhSign_98 (by decide) ?_
              refine v_goto (tgt := 103) C eX12_slhSign_99 (by decide) ?_
              refine v_iconst (v := (3 : Int32)) C eX12_slhSign_103 (by decide) ?_
              refine n_callV (As := [.int ((1 : Int32)), .int ((3 : Int32))]) (rest := []) C I mX12_130 (rs_good1 I hN hC3 3) (hN 49 (by decide)) hC3.obj rfl (by decide) (by decide) ⟨by decide, by decide⟩ rfl (vi_k (vi_k rfl)) (Nat.le_of_ble_eq_true rfl) eX12_slhSign_104 (fun r σ4 hp => ?_)
              obtain ⟨rfl, hC4, hk4⟩ := hp
              refine v_if_ne (tgt := 112) C eX12_slhSign_107 (by decide) (fun _ => ?_) (fun h => absurd h (by decide))
              refine v_pick (lv' := [(0, .ref (ad 49)), (2, .int (howI hw))]) [0, 2] rfl ?_
              generalize hy : upd (upd (xS (upd x 4 0) s0) 4 0) 4 0 = y at hC4
              have y3 : y 3 = x 3 := by rw [← hy]; rfl
              have y4 : y 4 = 0 := by rw [← hy]; rfl
              have y41 : y 41 = nI (pN s0) := by rw [← hy]; rfl
              have y42 : y 42 = nI (pH s0) := by rw [← hy]; rfl
              have y43 : y 43 = nI (pD s0) := by rw [← hy]; rfl
              have y44 : y 44 = nI (pP s0) := by rw [← hy]; rfl
              have y45 : y 45 = nI (pA s0) := by rw [← hy]; rfl
              have y46 : y 46 = nI (pK s0) := by rw [← hy]; rfl
              have y47 : y 47 = nI (2 * pN s0 + 3) := by rw [← hy]; rfl
              have y48 : y 48 = if shB s0 = true then 1 else 0 := by rw [← hy]; exact sh_eq
              have k4 : ∀ k, ¬ (k = 28 ∨ k = 49) → σ4 k = σ k := fun k hk => (hk4 k (by omega)).trans (k3 k hk)
              exact rs_signX I hN C hC4 y3 y4 y41 y42 y43 y44 y45 y46 y47 y48 (by omega) hd k4 (Or.inr c6) c5 hw rfl (by decide)
            · refine v_icmp_ne (tgt := 102) C eX12_slhSign_95 (by decide) (fun _ => ?_) (fun h => absurd h (ix_ne (a := (S 2).length) (b := 4 * (pN s0)) (by rw [bt_same (k3 2 (by decide))]; exact (hd.2 2 (by decide)).1) (ix_mul (a := 4) (b := pN s0) (rfl : (4 : Int32) = nI 4) (hC3.i41.trans (rfl : _ = nI (pN s0)))) (by omega) (by omega) (by omega)))
              rw [if_neg c5]
              refine v_iconst (v := (0 : Int32)) C eX12_slhSign_102 (by decide) ?_
              refine v_iconst (v := (3 : Int32)) C eX12_slhSign_103 (by decide) ?_
              refine n_callV (As := [.int ((0 : Int32)), .int ((3 : Int32))]) (rest := []) C I mX12_130 (rs_good0 I hN hC3 3) (hN 49 (by decide)) hC3.obj rfl (by decide) (by decide) ⟨by decide, by decide⟩ rfl (vi_k (vi_k rfl)) (Nat.le_of_ble_eq_true rfl) eX12_slhSign_104 (fun r σ4 hp => ?_)
              obtain ⟨rfl, hC4, hk4⟩ := hp
              refine v_if_ne (tgt := 112) C eX12_slhSign_107 (by decide) (fun h => absurd (by decide) h) (fun _ => ?_)
              refine v_iconst (v := (0 : Int32)) C eX12_slhSign_110 (by decide) ?_
              exact n_iret C rfl eX12_slhSign_111 ⟨rfl, ⟨upd _ 4 3, hC4, rfl, hd.keep (fun k hk => (hk4 k (by omega)).trans (k3 k (by omega)))⟩, fun k hk => (hk4 k (by omega)).trans (k3 k (by omega))⟩
          · refine v_if_ne (tgt := 74) C eX12_slhSign_67 (by decide) (fun _ => ?_) (fun h => absurd h (ix_ne (a := (S 0).length) (b := 0) (by rw [bt_same (k2 2 (by decide))]; exact (hd.2 0 (by decide)).1) (rfl : (0 : Int32) = nI 0) (by omega) (by omega) (by omega)))
            rw [if_neg (fun q => q.2.elim c4 c6)]
            refine v_iconst (v := (0 : Int32)) C eX12_slhSign_74 (by decide) ?_
            refine v_iconst (v := (2 : Int32)) C eX12_slhSign_75 (by decide) ?_
            refine n_callV (As := [.int ((0 : Int32)), .int ((2 : Int32))]) (rest := []) C I mX12_130 (rs_good0 I hN hC2 2) (hN 49 (by decide)) hC2.obj rfl (by decide) (by decide) ⟨by decide, by decide⟩ rfl (vi_k (vi_k rfl)) (Nat.le_of_ble_eq_true rfl) eX12_slhSign_76 (fun r σ3 hp => ?_)
            obtain ⟨rfl, hC3, hk3⟩ := hp
            refine v_if_eq (tgt := 110) C eX12_slhSign_79 (by decide) (fun _ => ?_) (fun h => absurd rfl h)
            refine v_iconst (v := (0 : Int32)) C eX12_slhSign_110 (by decide) ?_
            exact n_iret C rfl eX12_slhSign_111 ⟨rfl, ⟨upd _ 4 2, hC3, rfl, hd.keep (fun k hk => (hk3 k (by omega)).trans (k2 k (by omega)))⟩, fun k hk => (hk3 k (by omega)).trans (k2 k (by omega))⟩
      · refine v_natT (show (if hw = false ∨ (S 4).length ≤ 255 then (1 : Int32) else 0) = 0 from if_neg c3) ?_
        refine v_if_eq (tgt := 74) C eX12_slhSign_45 (by decide) (fun _ => ?_) (fun h => absurd rfl h)
        rw [if_neg (fun q => c3 q.1)]
        refine v_iconst (v := (0 : Int32)) C eX12_slhSign_74 (by decide) ?_
        refine v_iconst (v := (2 : Int32)) C eX12_slhSign_75 (by decide) ?_
        refine n_callV (As := [.int ((0 : Int32)), .int ((2 : Int32))]) (rest := []) C I mX12_130 (rs_good0 I hN hC2 2) (hN 49 (by decide)) hC2.obj rfl (by decide) (by decide) ⟨by decide, by decide⟩ rfl (vi_k (vi_k rfl)) (Nat.le_of_ble_eq_true rfl) eX12_slhSign_76 (fun r σ3 hp => ?_)
        obtain ⟨rfl, hC3, hk3⟩ := hp
        refine v_if_eq (tgt := 110) C eX12_slhSign_79 (by decide) (fun _ => ?_) (fun h => absurd rfl h)
        refine v_iconst (v := (0 : Int32)) C eX12_slhSign_110 (by decide) ?_
        exact n_iret C rfl eX12_slhSign_111 ⟨rfl, ⟨upd _ 4 2, hC3, rfl, hd.keep (fun k hk => (hk3 k (by omega)).trans (k2 k (by omega)))⟩, fun k hk => (hk3 k (by omega)).trans (k2 k (by omega))⟩
    · refine v_natT (show (if (-1 : Int32) ≤ p1 ∧ p1 ≤ (0 : Int32) then (1 : Int32) else 0) = 0 from if_neg c2) ?_
      refine v_if_eq (tgt := 24) C eX12_slhSign_17 (by decide) (fun _ => ?_) (fun h => absurd rfl h)
      refine v_iconst (v := (0 : Int32)) C eX12_slhSign_24 (by decide) ?_
      refine v_iconst (v := (1 : Int32)) C eX12_slhSign_25 (by decide) ?_
      refine n_callV (As := [.int ((0 : Int32)), .int ((1 : Int32))]) (rest := []) C I mX12_130 (rs_good0 I hN hC 1) (hN 49 (by decide)) hC.obj rfl (by decide) (by decide) ⟨by decide, by decide⟩ rfl (vi_k (vi_k rfl)) (Nat.le_of_ble_eq_true rfl) eX12_slhSign_26 (fun r σ1 hp => ?_)
      obtain ⟨rfl, hC1, hk1⟩ := hp
      rw [show sp_sign θ S T p0 p1 = (1, 0, S, T) from if_neg (fun q => c2 q.2)]
      refine v_if_ne (tgt := 34) C eX12_slhSign_29 (by decide) (fun h => absurd (by decide) h) (fun _ => ?_)
      refine v_iconst (v := (0 : Int32)) C eX12_slhSign_32 (by decide) ?_
      exact n_iret C rfl eX12_slhSign_33 ⟨rfl, ⟨upd _ 4 1, hC1, rfl, hd.keep (fun k hk => hk1 k (by omega))⟩, fun k hk => hk1 k (by omega)⟩
  · refine v_natT (show (if (0 : Int32) ≤ p0 ∧ p0 ≤ (11 : Int32) then (1 : Int32) else 0) = 0 from if_neg c1) ?_
    refine v_if_eq (tgt := 24) C eX12_slhSign_8 (by decide) (fun _ => ?_) (fun h => absurd rfl h)
    refine v_iconst (v := (0 : Int32)) C eX12_slhSign_24 (by decide) ?_
    refine v_iconst (v := (1 : Int32)) C eX12_slhSign_25 (by decide) ?_
    refine n_callV (As := [.int ((0 : Int32)), .int ((1 : Int32))]) (rest := []) C I mX12_130 (rs_good0 I hN hC 1) (hN 49 (by decide)) hC.obj rfl (by decide) (by decide) ⟨by decide, by decide⟩ rfl (vi_k (vi_k rfl)) (Nat.le_of_ble_eq_true rfl) eX12_slhSign_26 (fun r σ1 hp => ?_)
    obtain ⟨rfl, hC1, hk1⟩ := hp
    rw [show sp_sign θ S T p0 p1 = (1, 0, S, T) from if_neg (fun q => c1 q.1)]
    refine v_if_ne (tgt := 34) C eX12_slhSign_29 (by decide) (fun h => absurd (by decide) h) (fun _ => ?_)
    refine v_iconst (v := (0 : Int32)) C eX12_slhSign_32 (by decide) ?_
    exact n_iret C rfl eX12_slhSign_33 ⟨rfl, ⟨upd _ 4 1, hC1, rfl, hd.keep (fun k hk => hk1 k (by omega))⟩, fun k hk => hk1 k (by omega)⟩

end M33
