theorem RS.tabs {G : vG} {ad : Nat → Nat} {θ θ' : tT} {x : Nat → Int32} {σ τ : nS} (h : RS G ad θ x σ) (hk : ∀ k, ¬ (k = 5 ∨ k = 6 ∨ (7 ≤ k ∧ k ≤ 12)) → τ k = σ k) (t5 : τ 5 = eJ G 16 θ'.2.2.2) (t6 : τ 6 = eJ G 80 θ'.2.2.1) (t11 : τ 11 = eI G 25 θ'.1) (t12 : τ 12 = eJ G 24 θ'.2.1) : RS G ad θ' x τ := by
  obtain ⟨h1, ⟨h2, h3⟩, -, ⟨h8, h9, ha, hb, hc⟩, ⟨hd, he⟩, hf, hg⟩ := h
  have hz : ∀ j, j < 13 → 0 < rLn j → j < 5 := by decide
  refine ⟨fun j hj => ?_, ⟨?_, ?_⟩, ⟨t5, t6, t11, t12⟩, ⟨?_, ?_, ?_, ?_, ?_⟩, ⟨?_, ?_⟩, ?_, ?_⟩
  · have e : τ j = σ j := hk j (fun q => by have := hz j (by omega) hj; omega)
    rw [bt_same e, e]; exact h1 j hj
  · rw [bt_same (hk 2 (by decide)), hk 2 (by decide)]; exact h2
  · rw [bt_same (hk 36 (by decide)), hk 36 (by decide)]; exact h3
  · rw [jt_same (hk 13 (by decide)), hk 13 (by decide)]; exact h8
  · rw [jt_same (hk 14 (by decide)), hk 14 (by decide)]; exact h9
  · rw [jt_same (hk 15 (by decide)), hk 15 (by decide)]; exact ha
  · rw [jt_same (hk 16 (by decide)), hk 16 (by decide)]; exact hb
  · rw [bt_same (hk 17 (by decide)), hk 17 (by decide)]; exact hc
  · rw [hk 1 (by decide)]; exact hd
  · rw [hk 29 (by decide)]; exact he
  · rw [ox_same (hk 49 (by decide)), ot_same (hk 49 (by decide)), hk 49 (by decide)]; exact hf
  · rw [ox_same (hk 49 (by decide))]; exact hg
theorem RS.eqv {G : vG} {ad : Nat → Nat} {θ : tT} {x : Nat → Int32} {σ τ : nS} (h : RS G ad θ x σ) (hk : ∀ k, ¬ (7 ≤ k ∧ k ≤ 10) → τ k = σ k) : RS G ad θ x τ :=
  h.tabs (fun k hk' => hk k (by omega)) (by rw [hk 5 (by decide)]; exact h.tab.1) (by rw [hk 6 (by decide)]; exact h.tab.2.1) (by rw [hk 11 (by decide)]; exact h.tab.2.2.1) (by rw [hk 12 (by decide)]; exact h.tab.2.2.2)
def RH (G : vG) (ad : Nat → Nat) (θ : tT) (x : Nat → Int32) (σ : nS) : Prop := RS G ad θ x σ ∧ ∃ (σ0 : nS) (x0 : Nat → Int32) (h : hT), σ = hσ G ad σ0 x0 3 h ∧ h.2.2.2.2.2.1 < rateK 3
section M48
variable {G : vG} {B : Nat} {l : Launch} {ad : Nat → Nat} {N : Nat} {θ : tT} {x : Nat → Int32} {σ : nS}
theorem rh_of {bs : List Int32} (h : RT G ad θ x 3 bs σ) : RH G ad θ x σ := by
  obtain ⟨hS, σ0, x0, h0, e⟩ := h
  exact ⟨hS, σ0, x0, _, e, hFold_f (Or.inr (Or.inl rfl))⟩
theorem rh_put (I : nI1 ad N) (hN : ∀ k, k < 74 → k < N) (hR : RH G ad θ x σ) (v : Int32) : nOk G B l ad N yX12_put cX12_put 2 none 2 0 0 [.ref (ad 49), .int v] σ (fun r σ' => r = none ∧ RH G ad θ x σ' ∧ (∀ j, ¬ (13 ≤ j ∧ j ≤ 17 ∨ j = 49) → σ' j = σ j)) := by
  obtain ⟨hS, σ0, x0, h, rfl, hf⟩ := hR
  have t := hS.tab
  refine nOk.weak (c_put I hN (σ := σ0) t.2.2.1 t.2.2.2 t.2.1 (Or.inr (Or.inl rfl)) h hf v) ?_
  rintro r σ' ⟨h1, rfl⟩
  exact ⟨h1, ⟨hS.hs0 _, σ0, x0, _, rfl, hPut_lt (Or.inr (Or.inl rfl)) _ _ hf⟩, fun j hj => by rw [hσ_off hj, hσ_off hj]⟩
theorem rh_fin (I : nI1 ad N) (hN : ∀ k, k < 74 → k < N) (hR : RH G ad θ x σ) : nOk G B l ad N yX12_finish cX12_finish 4 none 3 0 0 [.ref (ad 49)] σ (fun r σ' => r = none ∧ RS G ad θ x σ' ∧ (∀ j, ¬ (13 ≤ j ∧ j ≤ 17 ∨ j = 49) → σ' j = σ j)) := by
  obtain ⟨hS, σ0, x0, h, rfl, hf⟩ := hR
  have t := hS.tab
  refine nOk.weak (c_finish3 I hN (σ := σ0) t.2.2.1 t.2.2.2 t.2.1 h hf) ?_
  rintro r σ' ⟨h1, rfl⟩
  exact ⟨h1, hS.hs0 _, fun j hj => by rw [hσ_off hj, hσ_off hj]⟩
theorem rh_13 (hR : RH G ad θ x σ) (f : Nat → Int64) : RH G ad θ x (va_up σ 13 (eJ G 25 f)) := by
  obtain ⟨hS, σ0, x0, h, rfl, hf⟩ := hR
  have e : va_up (hσ G ad σ0 x0 3 h) 13 (eJ G 25 f) = hσ G ad σ0 x0 3 (f, h.2) := n_extL [13, 14, 15, 16, 17, 49] ⟨rfl, rfl, rfl, rfl, rfl, rfl, trivial⟩ (fun q hq => by
    simp only [List.mem_cons, List.not_mem_nil, or_false, not_or] at hq
    rw [n_ne hq.1, hσ_off (by omega), hσ_off (by omega)])
  rw [e]
  exact ⟨hS.hs0 _, σ0, x0, _, rfl, hf⟩
set_option maxRecDepth 100000 in
set_option maxHeartbeats 4000000 in
theorem rs_named7 (I : nI1 ad N) (hN : ∀ k, k < 74 → k < N) (hC : RS G ad θ x σ) (hi : σ 7 = eJ G 8 (jt σ 7)) (u v : Int32) : nOk G B l ad N yX12_named cX12_named 5 none 5 0 0 [.ref (ad 49), .ref (ad 7), .int u, .int v] σ (fun r σ' => r = none ∧ RS G ad θ x σ' ∧ (∀ j, ¬ (13 ≤ j ∧ j ≤ 17 ∨ j = 49 ∨ j = 7) → σ' j = σ j) ∧ σ' 7 = eJ G 8 (jt σ' 7)) := by
  refine vOk.of (by decide +kernel) (Nat.le_of_ble_eq_true rfl) ?_
  intro p e s m args below meth c C
  refine v_eq (lv' := [(0, .ref (ad 49)), (1, .ref (ad 7)), (2, .int u), (3, .int v)]) rfl rfl rfl ?_
  refine v_aload_n C eX12_named_0 rfl 0 rfl ?_
  refine v_iconst (v := nI 3) C eX12_named_1 (by decide) ?_
  refine n_callV (As := [.int (nI 3)]) (rest := []) C I mX12_166 (rt_begin I hN hC (Or.inr (Or.inl rfl))) (hN 49 (by decide)) hC.obj rfl (by omega) (by decide) ⟨by decide, by decide⟩ rfl (vi_c (rfl : nI 3 = nI 3) rfl) (Nat.le_of_ble_eq_true rfl) eX12_named_2 (fun r σ1 hp => ?_)
  obtain ⟨rfl, hT1, hk1⟩ := hp
  have hR1 := rh_of hT1
  have hC1 := hR1.1
  refine v_iconst (v := nI 0) C eX12_named_5 (by decide) ?_
  refine v_istore (lv' := [(0, .ref (ad 49)), (1, .ref (ad 7)), (2, .int u), (3, .int v), (4, .int (nI 0))]) C eX12_named_6 (by decide) [1, 2, 3, 4, 0] rfl ?_
  refine v_forP (fun j τ => RH G ad θ x τ ∧ (∀ j, ¬ (13 ≤ j ∧ j ≤ 17 ∨ j = 49) → τ j = σ j)) (fun j => [(0, .ref (ad 49)), (1, .ref (ad 7)), (2, .int u), (3, .int v), (4, .int (nI j))]) 8 ?_ ?_ _ ⟨hR1, hk1⟩
  · intro τ hI
    obtain ⟨hR2, hk2⟩ := hI
    have hC2 := hR2.1
    refine v_iload C eX12_named_8 4 rfl ?_
    refine v_bipush (v := (8 : Int32)) C eX12_named_10 (by decide) ?_
    refine v_icmp_ge (tgt := 34) C eX12_named_12 (by decide) (fun _ => ?_) (fun h => absurd (ix_le (a := 8) (b := 8) (rfl : (8 : Int32) = nI 8) (rfl : nI 8 = nI 8) (by omega) (by omega) (by omega)) h)
    refine v_aload_n C eX12_named_34 rfl 0 rfl ?_
    refine v_bipush (v := (83 : Int32)) C eX12_named_35 (by decide) ?_
    refine n_callV (As := [.int ((83 : Int32))]) (rest := []) C I mX12_171 (rh_put I hN hR2 _) (hN 49 (by decide)) hC2.obj rfl (by omega) (by decide) ⟨by decide, by decide⟩ rfl (vi_k rfl) (Nat.le_of_ble_eq_true rfl) eX12_named_37 (fun r σ3 hp => ?_)
    obtain ⟨rfl, hR3, hq3⟩ := hp
    have hC3 := hR3.1
    have hk3 : ∀ j, ¬ (13 ≤ j ∧ j ≤ 17 ∨ j = 49) → σ3 j = σ j := fun j hj => (hq3 j hj).trans (hk2 j hj)
    refine v_aload_n C eX12_named_40 rfl 0 rfl ?_
    refine v_bipush (v := (72 : Int32)) C eX12_named_41 (by decide) ?_
    refine n_callV (As := [.int ((72 : Int32))]) (rest := []) C I mX12_171 (rh_put I hN hR3 _) (hN 49 (by decide)) hC3.obj rfl (by omega) (by decide) ⟨by decide, by decide⟩ rfl (vi_k rfl) (Nat.le_of_ble_eq_true rfl) eX12_named_43 (fun r σ4 hp => ?_)
    obtain ⟨rfl, hR4, hq4⟩ := hp
    have hC4 := hR4.1
    have hk4 : ∀ j, ¬ (13 ≤ j ∧ j ≤ 17 ∨ j = 49) → σ4 j = σ j := fun j hj => (hq4 j hj).trans (hk3 j hj)
    refine v_aload_n C eX12_named_46 rfl 0 rfl ?_
    refine v_bipush (v := (65 : Int32)) C eX12_named_47 (by decide) ?_
    refine n_callV (As := [.int ((65 : Int32))]) (rest := []) C I mX12_171 (rh_put I hN hR4 _) (hN 49 (by decide)) hC4.obj rfl (by omega) (by decide) ⟨by decide, by decide⟩ rfl (vi_k rfl) (Nat.le_of_ble_eq_true rfl) eX12_named_49 (fun r σ5 hp => ?_)
    obtain ⟨rfl, hR5, hq5⟩ := hp
    have hC5 := hR5.1
    have hk5 : ∀ j, ¬ (13 ≤ j ∧ j ≤ 17 ∨ j = 49) → σ5 j = σ j := fun j hj => (hq5 j hj).trans (hk4 j hj)
    refine v_aload_n C eX12_named_52 rfl 0 rfl ?_
    refine v_bipush (v := (45 : Int32)) C eX12_named_53 (by decide) ?_
    refine n_callV (As := [.int ((45 : Int32))]) (rest := []) C I mX12_171 (rh_put I hN hR5 _) (hN 49 (by decide)) hC5.obj rfl (by omega) (by decide) ⟨by decide, by decide⟩ rfl (vi_k rfl) (Nat.le_of_ble_eq_true rfl) eX12_named_55 (fun r σ6 hp => ?_)
    obtain ⟨rfl, hR6, hq6⟩ := hp
    have hC6 := hR6.1
    have hk6 : ∀ j, ¬ (13 ≤ j ∧ j ≤ 17 ∨ j = 49) → σ6 j = σ j := fun j hj => (hq6 j hj).trans (hk5 j hj)
    refine v_aload_n C eX12_named_58 rfl 0 rfl ?_
    refine v_bipush (v := (53 : Int32)) C eX12_named_59 (by decide) ?_
    refine n_callV (As := [.int ((53 : Int32))]) (rest := []) C I mX12_171 (rh_put I hN hR6 _) (hN 49 (by decide)) hC6.obj rfl (by omega) (by decide) ⟨by decide, by decide⟩ rfl (vi_k rfl) (Nat.le_of_ble_eq_true rfl) eX12_named_61 (fun r σ7 hp => ?_)
    obtain ⟨rfl, hR7, hq7⟩ := hp
    have hC7 := hR7.1
    have hk7 : ∀ j, ¬ (13 ≤ j ∧ j ≤ 17 ∨ j = 49) → σ7 j = σ j := fun j hj => (hq7 j hj).trans (hk6 j hj)
    refine v_aload_n C eX12_named_64 rfl 0 rfl ?_
    refine v_bipush (v := (49 : Int32)) C eX12_named_65 (by decide) ?_
    refine n_callV (As := [.int ((49 : Int32))]) (rest := []) C I mX12_171 (rh_put I hN hR7 _) (hN 49 (by decide)) hC7.obj rfl (by omega) (by decide) ⟨by decide, by decide⟩ rfl (vi_k rfl) (Nat.le_of_ble_eq_true rfl) eX12_named_67 (fun r σ8 hp => ?_)
    obtain ⟨rfl, hR8, hq8⟩ := hp
    have hC8 := hR8.1
    have hk8 : ∀ j, ¬ (13 ≤ j ∧ j ≤ 17 ∨ j = 49) → σ8 j = σ j := fun j hj => (hq8 j hj).trans (hk7 j hj)
    refine v_aload_n C eX12_named_70 rfl 0 rfl ?_
    refine v_bipush (v := (50 : Int32)) C eX12_named_71 (by decide) ?_
    refine n_callV (As := [.int ((50 : Int32))]) (rest := []) C I mX12_171 (rh_put I hN hR8 _) (hN 49 (by decide)) hC8.obj rfl (by omega) (by decide) ⟨by decide, by decide⟩ rfl (vi_k rfl) (Nat.le_of_ble_eq_true rfl) eX12_named_73 (fun r σ9 hp => ?_)
    obtain ⟨rfl, hR9, hq9⟩ := hp
    have hC9 := hR9.1
    have hk9 : ∀ j, ¬ (13 ≤ j ∧ j ≤ 17 ∨ j = 49) → σ9 j = σ j := fun j hj => (hq9 j hj).trans (hk8 j hj)
    refine v_aload_n C eX12_named_76 rfl 0 rfl ?_
    refine v_bipush (v := (47 : Int32)) C eX12_named_77 (by decide) ?_
    refine n_callV (As := [.int ((47 : Int32))]) (rest := []) C I mX12_171 (rh_put I hN hR9 _) (hN 49 (by decide)) hC9.obj rfl (by omega) (by decide) ⟨by decide, by decide⟩ rfl (vi_k rfl) (Nat.le_of_ble_eq_true rfl) eX12_named_79 (fun r σ10 hp => ?_)
    obtain ⟨rfl, hR10, hq10⟩ := hp
    have hC10 := hR10.1
    have hk10 : ∀ j, ¬ (13 ≤ j ∧ j ≤ 17 ∨ j = 49) → σ10 j = σ j := fun j hj => (hq10 j hj).trans (hk9 j hj)
    refine v_aload_n C eX12_named_82 rfl 0 rfl ?_
    refine v_bipush (v := (50 : Int32)) C eX12_named_83 (by decide) ?_
    refine n_callV (As := [.int ((50 : Int32))]) (rest := []) C I mX12_171 (rh_put I hN hR10 _) (hN 49 (by decide)) hC10.obj rfl (by omega) (by decide) ⟨by decide, by decide⟩ rfl (vi_k rfl) (Nat.le_of_ble_eq_true rfl) eX12_named_85 (fun r σ11 hp => ?_)
    obtain ⟨rfl, hR11, hq11⟩ := hp
    have hC11 := hR11.1
    have hk11 : ∀ j, ¬ (13 ≤ j ∧ j ≤ 17 ∨ j = 49) → σ11 j = σ j := fun j hj => (hq11 j hj).trans (hk10 j hj)
    refine v_aload_n C eX12_named_88 rfl 0 rfl ?_
    refine v_iload_n C eX12_named_89 rfl 2 rfl ?_
    refine n_callV (As := [.int u]) (rest := []) C I mX12_171 (rh_put I hN hR11 _) (hN 49 (by decide)) hC11.obj rfl (by omega) (by decide) ⟨by decide, by decide⟩ rfl (vi_k rfl) (Nat.le_of_ble_eq_true rfl) eX12_named_90 (fun r σ12 hp => ?_)
    obtain ⟨rfl, hR12, hq12⟩ := hp
    have hC12 := hR12.1
    have hk12 : ∀ j, ¬ (13 ≤ j ∧ j ≤ 17 ∨ j = 49) → σ12 j = σ j := fun j hj => (hq12 j hj).trans (hk11 j hj)
    refine v_aload_n C eX12_named_93 rfl 0 rfl ?_
    refine v_iload_n C eX12_named_94 rfl 3 rfl ?_
    refine n_callV (As := [.int v]) (rest := []) C I mX12_171 (rh_put I hN hR12 _) (hN 49 (by decide)) hC12.obj rfl (by omega) (by decide) ⟨by decide, by decide⟩ rfl (vi_k rfl) (Nat.le_of_ble_eq_true rfl) eX12_named_95 (fun r σ13 hp => ?_)
    obtain ⟨rfl, hR13, hq13⟩ := hp
    have hC13 := hR13.1
    have hk13 : ∀ j, ¬ (13 ≤ j ∧ j ≤ 17 ∨ j = 49) → σ13 j = σ j := fun j hj => (hq13 j hj).trans (hk12 j hj)
    refine v_aload_n C eX12_named_98 rfl 0 rfl ?_
    refine n_callV (As := []) (rest := []) C I mX12_174 (rh_fin I hN hR13) (hN 49 (by decide)) hC13.obj rfl (by omega) (by decide) ⟨by decide, by decide⟩ rfl rfl (Nat.le_of_ble_eq_true rfl) eX12_named_99 (fun r σA hp => ?_)
    obtain ⟨rfl, hCA, hqA⟩ := hp
    have hkA : ∀ j, ¬ (13 ≤ j ∧ j ≤ 17 ∨ j = 49) → σA j = σ j := fun j hj => (hqA j hj).trans (hk13 j hj)
    refine v_iconst (v := nI 0) C eX12_named_102 (by decide) ?_
    refine v_istore (lv' := [(0, .ref (ad 49)), (1, .ref (ad 7)), (2, .int u), (3, .int v), (4, .int (nI 0))]) C eX12_named_103 (by decide) [1, 2, 3, 4, 0] rfl ?_
    refine v_forP (fun j ρ => RS G ad θ x ρ ∧ (∀ j, ¬ (13 ≤ j ∧ j ≤ 17 ∨ j = 49 ∨ j = 7) → ρ j = σ j) ∧ ρ 7 = eJ G 8 (jt ρ 7)) (fun j => [(0, .ref (ad 49)), (1, .ref (ad 7)), (2, .int u), (3, .int v), (4, .int (nI j))]) 8 ?_ ?_ _ ⟨hCA, fun j hj => hkA j (by omega), by rw [jt_same (hkA 7 (by decide)), hkA 7 (by decide)]; exact hi⟩
    · intro ρ hI
      obtain ⟨hCB, hkB, hiB⟩ := hI
      refine v_iload C eX12_named_105 4 rfl ?_
      refine v_bipush (v := (8 : Int32)) C eX12_named_107 (by decide) ?_
      refine v_icmp_ge (tgt := 129) C eX12_named_109 (by decide) (fun _ => ?_) (fun h => absurd (ix_le (a := 8) (b := 8) (rfl : (8 : Int32) = nI 8) (rfl : nI 8 = nI 8) (by omega) (by omega) (by omega)) h)
      exact n_vret C rfl eX12_named_129 ⟨rfl, hCB, hkB, hiB⟩
    · intro j hj ih ρ hI
      obtain ⟨hCB, hkB, hiB⟩ := hI
      refine v_iload C eX12_named_105 4 rfl ?_
      refine v_bipush (v := (8 : Int32)) C eX12_named_107 (by decide) ?_
      refine v_icmp_ge (tgt := 129) C eX12_named_109 (by decide) (fun h => absurd h (ix_nle (a := 8) (b := j) (rfl : (8 : Int32) = nI 8) (rfl : nI j = nI j) (by omega) (by omega) (by omega))) (fun _ => ?_)
      refine v_aload_n C eX12_named_112 rfl 1 rfl ?_
      refine v_iload C eX12_named_113 4 rfl ?_
      refine v_aload_n C eX12_named_115 rfl 0 rfl ?_
      refine n_get C I fX12_48_X12 eX12_named_116 (hN 49 (by decide)) hCB.obj rfl ?_
      refine v_iload C eX12_named_119 4 rfl ?_
      refine n_lald C I eX12_named_121 (hN 13 (by decide)) hCB.2.2.2.1.1 j (rfl : nI j = nI j) (by omega) (by decide) ?_
      refine n_last C I eX12_named_122 (hN 7 (by decide)) hiB j (rfl : nI j = nI j) (by omega) (by decide) ?_
      refine v_iinc (lv' := [(0, .ref (ad 49)), (1, .ref (ad 7)), (2, .int u), (3, .int v), (4, .int (nI (j + 1)))]) C eX12_named_123 4 rfl (ix_inc _) (by decide) [1, 2, 3, 4, 0] rfl ?_
      refine v_goto (tgt := 105) C eX12_named_126 (by decide) ?_
      exact ih _ ⟨hCB.eqv (fun k hk => n_ne (by omega)), fun k hk => (n_ne (by omega)).trans (hkB k hk), by rw [jt_n]; exact n_self⟩
  · intro j hj ih τ hI
    obtain ⟨hR2, hk2⟩ := hI
    have hC2 := hR2.1
    refine v_iload C eX12_named_8 4 rfl ?_
    refine v_bipush (v := (8 : Int32)) C eX12_named_10 (by decide) ?_
    refine v_icmp_ge (tgt := 34) C eX12_named_12 (by decide) (fun h => absurd h (ix_nle (a := 8) (b := j) (rfl : (8 : Int32) = nI 8) (rfl : nI j = nI j) (by omega) (by omega) (by omega))) (fun _ => ?_)
    refine v_aload_n C eX12_named_15 rfl 0 rfl ?_
    refine n_get C I fX12_48_X12 eX12_named_16 (hN 49 (by decide)) hC2.obj rfl ?_
    refine v_iload C eX12_named_19 4 rfl ?_
    refine v_dup2_11 C eX12_named_21 rfl rfl ?_
    refine n_lald C I eX12_named_22 (hN 13 (by decide)) hC2.2.2.2.1.1 j (rfl : nI j = nI j) (by omega) (by decide) ?_
    refine v_ldc2 (v := (-6510615555426900571 : Int64)) C eX12_named_23 vw_1133 ?_
    refine v_lxor C eX12_named_26 ?_
    refine n_last C I eX12_named_27 (hN 13 (by decide)) hC2.2.2.2.1.1 j (rfl : nI j = nI j) (by omega) (by decide) ?_
    refine v_iinc (lv' := [(0, .ref (ad 49)), (1, .ref (ad 7)), (2, .int u), (3, .int v), (4, .int (nI (j + 1)))]) C eX12_named_28 4 rfl (ix_inc _) (by decide) [1, 2, 3, 4, 0] rfl ?_
    refine v_goto (tgt := 8) C eX12_named_31 (by decide) ?_
    exact ih _ ⟨rh_13 hR2 _, fun k hk => (n_ne (by omega)).trans (hk2 k hk)⟩

set_option maxRecDepth 100000 in
set_option maxHeartbeats 4000000 in
theorem rs_named8 (I : nI1 ad N) (hN : ∀ k, k < 74 → k < N) (hC : RS G ad θ x σ) (hi : σ 8 = eJ G 8 (jt σ 8)) (u v : Int32) : nOk G B l ad N yX12_named cX12_named 5 none 5 0 0 [.ref (ad 49), .ref (ad 8), .int u, .int v] σ (fun r σ' => r = none ∧ RS G ad θ x σ' ∧ (∀ j, ¬ (13 ≤ j ∧ j ≤ 17 ∨ j = 49 ∨ j = 8) → σ' j = σ j) ∧ σ' 8 = eJ G 8 (jt σ' 8)) := by
  refine vOk.of (by decide +kernel) (Nat.le_of_ble_eq_true rfl) ?_
  intro p e s m args below meth c C
  refine v_eq (lv' := [(0, .ref (ad 49)), (1, .ref (ad 8)), (2, .int u), (3, .int v)]) rfl rfl rfl ?_
  refine v_aload_n C eX12_named_0 rfl 0 rfl ?_
  refine v_iconst (v := nI 3) C eX12_named_1 (by decide) ?_
  refine n_callV (As := [.int (nI 3)]) (rest := []) C I mX12_166 (rt_begin I hN hC (Or.inr (Or.inl rfl))) (hN 49 (by decide)) hC.obj rfl (by omega) (by decide) ⟨by decide, by decide⟩ rfl (vi_c (rfl : nI 3 = nI 3) rfl) (Nat.le_of_ble_eq_true rfl) eX12_named_2 (fun r σ1 hp => ?_)
  obtain ⟨rfl, hT1, hk1⟩ := hp
  have hR1 := rh_of hT1
  have hC1 := hR1.1
  refine v_iconst (v := nI 0) C eX12_named_5 (by decide) ?_
  refine v_istore (lv' := [(0, .ref (ad 49)), (1, .ref (ad 8)), (2, .int u), (3, .int v), (4, .int (nI 0))]) C eX12_named_6 (by decide) [1, 2, 3, 4, 0] rfl ?_
  refine v_forP (fun j τ => RH G ad θ x τ ∧ (∀ j, ¬ (13 ≤ j ∧ j ≤ 17 ∨ j = 49) → τ j = σ j)) (fun j => [(0, .ref (ad 49)), (1, .ref (ad 8)), (2, .int u), (3, .int v), (4, .int (nI j))]) 8 ?_ ?_ _ ⟨hR1, hk1⟩
  · intro τ hI
    obtain ⟨hR2, hk2⟩ := hI
    have hC2 := hR2.1
    refine v_iload C eX12_named_8 4 rfl ?_
    refine v_bipush (v := (8 : Int32)) C eX12_named_10 (by decide) ?_
    refine v_icmp_ge (tgt := 34) C eX12_named_12 (by decide) (fun _ => ?_) (fun h => absurd (ix_le (a := 8) (b := 8) (rfl : (8 : Int32) = nI 8) (rfl : nI 8 = nI 8) (by omega) (by omega) (by omega)) h)
    refine v_aload_n C eX12_named_34 rfl 0 rfl ?_
    refine v_bipush (v := (83 : Int32)) C eX12_named_35 (by decide) ?_
    refine n_callV (As := [.int ((83 : Int32))]) (rest := []) C I mX12_171 (rh_put I hN hR2 _) (hN 49 (by decide)) hC2.obj rfl (by omega) (by decide) ⟨by decide, by decide⟩ rfl (vi_k rfl) (Nat.le_of_ble_eq_true rfl) eX12_named_37 (fun r σ3 hp => ?_)
    obtain ⟨rfl, hR3, hq3⟩ := hp
    have hC3 := hR3.1
    have hk3 : ∀ j, ¬ (13 ≤ j ∧ j ≤ 17 ∨ j = 49) → σ3 j = σ j := fun j hj => (hq3 j hj).trans (hk2 j hj)
    refine v_aload_n C eX12_named_40 rfl 0 rfl ?_
    refine v_bipush (v := (72 : Int32)) C eX12_named_41 (by decide) ?_
    refine n_callV (As := [.int ((72 : Int32))]) (rest := []) C I mX12_171 (rh_put I hN hR3 _) (hN 49 (by decide)) hC3.obj rfl (by omega) (by decide) ⟨by decide, by decide⟩ rfl (vi_k rfl) (Nat.le_of_ble_eq_true rfl) eX12_named_43 (fun r σ4 hp => ?_)
    obtain ⟨rfl, hR4, hq4⟩ := hp
    have hC4 := hR4.1
    have hk4 : ∀ j, ¬ (13 ≤ j ∧ j ≤ 17 ∨ j = 49) → σ4 j = σ j := fun j hj => (hq4 j hj).trans (hk3 j hj)
    refine v_aload_n C eX12_named_46 rfl 0 rfl ?_
    refine v_bipush (v := (65 : Int32)) C eX12_named_47 (by decide) ?_
    refine n_callV (As := [.int ((65 : Int32))]) (rest := []) C I mX12_171 (rh_put I hN hR4 _) (hN 49 (by decide)) hC4.obj rfl (by omega) (by decide) ⟨by decide, by decide⟩ rfl (vi_k rfl) (Nat.le_of_ble_eq_true rfl) eX12_named_49 (fun r σ5 hp => ?_)
    obtain ⟨rfl, hR5, hq5⟩ := hp
    have hC5 := hR5.1
    have hk5 : ∀ j, ¬ (13 ≤ j ∧ j ≤ 17 ∨ j = 49) → σ5 j = σ j := fun j hj => (hq5 j hj).trans (hk4 j hj)
    refine v_aload_n C eX12_named_52 rfl 0 rfl ?_
    refine v_bipush (v := (45 : Int32)) C eX12_named_53 (by decide) ?_
    refine n_callV (As := [.int ((45 : Int32))]) (rest := []) C I mX12_171 (rh_put I hN hR5 _) (hN 49 (by decide)) hC5.obj rfl (by omega) (by decide) ⟨by decide, by decide⟩ rfl (vi_k rfl) (Nat.le_of_ble_eq_true rfl) eX12_named_55 (fun r σ6 hp => ?_)
    obtain ⟨rfl, hR6, hq6⟩ := hp
    have hC6 := hR6.1
    have hk6 : ∀ j, ¬ (13 ≤ j ∧ j ≤ 17 ∨ j = 49) → σ6 j = σ j := fun j hj => (hq6 j hj).trans (hk5 j hj)
    refine v_aload_n C eX12_named_58 rfl 0 rfl ?_
    refine v_bipush (v := (53 : Int32)) C eX12_named_59 (by decide) ?_
    refine n_callV (As := [.int ((53 : Int32))]) (rest := []) C I mX12_171 (rh_put I hN hR6 _) (hN 49 (by decide)) hC6.obj rfl (by omega) (by decide) ⟨by decide, by decide⟩ rfl (vi_k rfl) (Nat.le_of_ble_eq_true rfl) eX12_named_61 (fun r σ7 hp => ?_)
    obtain ⟨rfl, hR7, hq7⟩ := hp
    have hC7 := hR7.1
    have hk7 : ∀ j, ¬ (13 ≤ j ∧ j ≤ 17 ∨ j = 49) → σ7 j = σ j := fun j hj => (hq7 j hj).trans (hk6 j hj)
    refine v_aload_n C eX12_named_64 rfl 0 rfl ?_
    refine v_bipush (v := (49 : Int32)) C eX12_named_65 (by decide) ?_
    refine n_callV (As := [.int ((49 : Int32))]) (rest := []) C I mX12_171 (rh_put I hN hR7 _) (hN 49 (by decide)) hC7.obj rfl (by omega) (by decide) ⟨by decide, by decide⟩ rfl (vi_k rfl) (Nat.le_of_ble_eq_true rfl) eX12_named_67 (fun r σ8 hp => ?_)
    obtain ⟨rfl, hR8, hq8⟩ := hp
    have hC8 := hR8.1
    have hk8 : ∀ j, ¬ (13 ≤ j ∧ j ≤ 17 ∨ j = 49) → σ8 j = σ j := fun j hj => (hq8 j hj).trans (hk7 j hj)
    refine v_aload_n C eX12_named_70 rfl 0 rfl ?_
    refine v_bipush (v := (50 : Int32)) C eX12_named_71 (by decide) ?_
    refine n_callV (As := [.int ((50 : Int32))]) (rest := []) C I mX12_171 (rh_put I hN hR8 _) (hN 49 (by decide)) hC8.obj rfl (by omega) (by decide) ⟨by decide, by decide⟩ rfl (vi_k rfl) (Nat.le_of_ble_eq_true rfl) eX12_named_73 (fun r σ9 hp => ?_)
    obtain ⟨rfl, hR9, hq9⟩ := hp
    have hC9 := hR9.1
    have hk9 : ∀ j, ¬ (13 ≤ j ∧ j ≤ 17 ∨ j = 49) → σ9 j = σ j := fun j hj => (hq9 j hj).trans (hk8 j hj)
    refine v_aload_n C eX12_named_76 rfl 0 rfl ?_
    refine v_bipush (v := (47 : Int32)) C eX12_named_77 (by decide) ?_
    refine n_callV (As := [.int ((47 : Int32))]) (rest := []) C I mX12_171 (rh_put I hN hR9 _) (hN 49 (by decide)) hC9.obj rfl (by omega) (by decide) ⟨by decide, by decide⟩ rfl (vi_k rfl) (Nat.le_of_ble_eq_true rfl) eX12_named_79 (fun r σ10 hp => ?_)
    obtain ⟨rfl, hR10, hq10⟩ := hp
    have hC10 := hR10.1
    have hk10 : ∀ j, ¬ (13 ≤ j ∧ j ≤ 17 ∨ j = 49) → σ10 j = σ j := fun j hj => (hq10 j hj).trans (hk9 j hj)
    refine v_aload_n C eX12_named_82 rfl 0 rfl ?_
    refine v_bipush (v := (50 : Int32)) C eX12_named_83 (by decide) ?_
    refine n_callV (As := [.int ((50 : Int32))]) (rest := []) C I mX12_171 (rh_put I hN hR10 _) (hN 49 (by decide)) hC10.obj rfl (by omega) (by decide) ⟨by decide, by decide⟩ rfl (vi_k rfl) (Nat.le_of_ble_eq_true rfl) eX12_named_85 (fun r σ11 hp => ?_)
    obtain ⟨rfl, hR11, hq11⟩ := hp
    have hC11 := hR11.1
    have hk11 : ∀ j, ¬ (13 ≤ j ∧ j ≤ 17 ∨ j = 49) → σ11 j = σ j := fun j hj => (hq11 j hj).trans (hk10 j hj)
    refine v_aload_n C eX12_named_88 rfl 0 rfl ?_
    refine v_iload_n C eX12_named_89 rfl 2 rfl ?_
    refine n_callV (As := [.int u]) (rest := []) C I mX12_171 (rh_put I hN hR11 _) (hN 49 (by decide)) hC11.obj rfl (by omega) (by decide) ⟨by decide, by decide⟩ rfl (vi_k rfl) (Nat.le_of_ble_eq_true rfl) eX12_named_90 (fun r σ12 hp => ?_)
    obtain ⟨rfl, hR12, hq12⟩ := hp
    have hC12 := hR12.1
    have hk12 : ∀ j, ¬ (13 ≤ j ∧ j ≤ 17 ∨ j = 49) → σ12 j = σ j := fun j hj => (hq12 j hj).trans (hk11 j hj)
    refine v_aload_n C eX12_named_93 rfl 0 rfl ?_
    refine v_iload_n C eX12_named_94 rfl 3 rfl ?_
    refine n_callV (As := [.int v]) (rest := []) C I mX12_171 (rh_put I hN hR12 _) (hN 49 (by decide)) hC12.obj rfl (by omega) (by decide) ⟨by decide, by decide⟩ rfl (vi_k rfl) (Nat.le_of_ble_eq_true rfl) eX12_named_95 (fun r σ13 hp => ?_)
    obtain ⟨rfl, hR13, hq13⟩ := hp
    have hC13 := hR13.1
    have hk13 : ∀ j, ¬ (13 ≤ j ∧ j ≤ 17 ∨ j = 49) → σ13 j = σ j := fun j hj => (hq13 j hj).trans (hk12 j hj)
    refine v_aload_n C eX12_named_98 rfl 0 rfl ?_
    refine n_callV (As := []) (rest := []) C I mX12_174 (rh_fin I hN hR13) (hN 49 (by decide)) hC13.obj rfl (by omega) (by decide) ⟨by decide, by decide⟩ rfl rfl (Nat.le_of_ble_eq_true rfl) eX12_named_99 (fun r σA hp => ?_)
    obtain ⟨rfl, hCA, hqA⟩ := hp
    have hkA : ∀ j, ¬ (13 ≤ j ∧ j ≤ 17 ∨ j = 49) → σA j = σ j := fun j hj => (hqA j hj).trans (hk13 j hj)
    refine v_iconst (v := nI 0) C eX12_named_102 (by decide) ?_
    refine v_istore (lv' := [(0, .ref (ad 49)), (1, .ref (ad 8)), (2, .int u), (3, .int v), (4, .int (nI 0))]) C eX12_named_103 (by decide) [1, 2, 3, 4, 0] rfl ?_
    refine v_forP (fun j ρ => RS G ad θ x ρ ∧ (∀ j, ¬ (13 ≤ j ∧ j ≤ 17 ∨ j = 49 ∨ j = 8) → ρ j = σ j) ∧ ρ 8 = eJ G 8 (jt ρ 8)) (fun j => [(0, .ref (ad 49)), (1, .ref (ad 8)), (2, .int u), (3, .int v), (4, .int (nI j))]) 8 ?_ ?_ _ ⟨hCA, fun j hj => hkA j (by omega), by rw [jt_same (hkA 8 (by decide)), hkA 8 (by decide)]; exact hi⟩
    · intro ρ hI
      obtain ⟨hCB, hkB, hiB⟩ := hI
      refine v_iload C eX12_named_105 4 rfl ?_
      refine v_bipush (v := (8 : Int32)) C eX12_named_107 (by decide) ?_
      refine v_icmp_ge (tgt := 129) C eX12_named_109 (by decide) (fun _ => ?_) (fun h => absurd (ix_le (a := 8) (b := 8) (rfl : (8 : Int32) = nI 8) (rfl : nI 8 = nI 8) (by omega) (by omega) (by omega)) h)
      exact n_vret C rfl eX12_named_129 ⟨rfl, hCB, hkB, hiB⟩
    · intro j hj ih ρ hI
      obtain ⟨hCB, hkB, hiB⟩ := hI
      refine v_iload C eX12_named_105 4 rfl ?_
      refine v_bipush (v := (8 : Int32)) C eX12_named_107 (by decide) ?_
      refine v_icmp_ge (tgt := 129) C eX12_named_109 (by decide) (fun h => absurd h (ix_nle (a := 8) (b := j) (rfl : (8 : Int32) = nI 8) (rfl : nI j = nI j) (by omega) (by omega) (by omega))) (fun _ => ?_)
      refine v_aload_n C eX12_named_112 rfl 1 rfl ?_
      refine v_iload C eX12_named_113 4 rfl ?_
      refine v_aload_n C eX12_named_115 rfl 0 rfl ?_
      refine n_get C I fX12_48_X12 eX12_named_116 (hN 49 (by decide)) hCB.obj rfl ?_
      refine v_iload C eX12_named_119 4 rfl ?_
      refine n_lald C I eX12_named_121 (hN 13 (by decide)) hCB.2.2.2.1.1 j (rfl : nI j = nI j) (by omega) (by decide) ?_
      refine n_last C I eX12_named_122 (hN 8 (by decide)) hiB j (rfl : nI j = nI j) (by omega) (by decide) ?_
      refine v_iinc (lv' := [(0, .ref (ad 49)), (1, .ref (ad 8)), (2, .int u), (3, .int v), (4, .int (nI (j + 1)))]) C eX12_named_123 4 rfl (ix_inc _) (by decide) [1, 2, 3, 4, 0] rfl ?_
      refine v_goto (tgt := 105) C eX12_named_126 (by decide) ?_
      exact ih _ ⟨hCB.eqv (fun k hk => n_ne (by omega)), fun k hk => (n_ne (by omega)).trans (hkB k hk), by rw [jt_n]; exact n_self⟩
  · intro j hj ih τ hI
    obtain ⟨hR2, hk2⟩ := hI
    have hC2 := hR2.1
    refine v_iload C eX12_named_8 4 rfl ?_
    refine v_bipush (v := (8 : Int32)) C eX12_named_10 (by decide) ?_
    refine v_icmp_ge (tgt := 34) C eX12_named_12 (by decide) (fun h => absurd h (ix_nle (a := 8) (b := j) (rfl : (8 : Int32) = nI 8) (rfl : nI j = nI j) (by omega) (by omega) (by omega))) (fun _ => ?_)
    refine v_aload_n C eX12_named_15 rfl 0 rfl ?_
    refine n_get C I fX12_48_X12 eX12_named_16 (hN 49 (by decide)) hC2.obj rfl ?_
    refine v_iload C eX12_named_19 4 rfl ?_
    refine v_dup2_11 C eX12_named_21 rfl rfl ?_
    refine n_lald C I eX12_named_22 (hN 13 (by decide)) hC2.2.2.2.1.1 j (rfl : nI j = nI j) (by omega) (by decide) ?_
    refine v_ldc2 (v := (-6510615555426900571 : Int64)) C eX12_named_23 vw_1133 ?_
    refine v_lxor C eX12_named_26 ?_
    refine n_last C I eX12_named_27 (hN 13 (by decide)) hC2.2.2.2.1.1 j (rfl : nI j = nI j) (by omega) (by decide) ?_
    refine v_iinc (lv' := [(0, .ref (ad 49)), (1, .ref (ad 8)), (2, .int u), (3, .int v), (4, .int (nI (j + 1)))]) C eX12_named_28 4 rfl (ix_inc _) (by decide) [1, 2, 3, 4, 0] rfl ?_
    refine v_goto (tgt := 8) C eX12_named_31 (by decide) ?_
    exact ih _ ⟨rh_13 hR2 _, fun k hk => (n_ne (by omega)).trans (hk2 k hk)⟩

set_option maxRecDepth 100000 in
set_option maxHeartbeats 4000000 in
theorem cs_4 (I : nI1 ad N) (hN : ∀ k, k < 74 → k < N) {p : Program} {e : Env} {R : Room} {s : State} {m : MethodId} {args : Array Value} {below : List Frame} {meth : Method} {c : Code}  (C : vC G B p m meth c cX12_constants 6 none s args yX12_constants.cls) (hC : RS G ad θ x σ) (h7 : σ 7 = eJ G 8 (jt σ 7)) (h8 : σ 8 = eJ G 8 (jt σ 8)) {d1 : Nat} (hR : R = vRm d1 0 0) (hd1 : 7 ≤ d1) {Post : Option Value → nS → Prop} (hPost : ∀ r σ', r = none ∧ RS G ad θ x σ' ∧ (∀ j, ¬ (13 ≤ j ∧ j ≤ 17 ∨ j = 49 ∨ j = 7 ∨ j = 8) → σ' j = σ j) → Post r σ') : V G B p l e R s m args below meth c 6 0 0 (MQ below (vQ G B (fun r w' => ∃ σ' : nS, w' = nW ad N σ' ∧ Post r σ')) args s 0 0 (fun q => B ≤ q)) (nW ad N σ) 184 [(0, .ref (ad 49))] [] := by
  subst hR
  refine v_aload_n C eX12_constants_184 rfl 0 rfl ?_
  refine v_aload_n C eX12_constants_185 rfl 0 rfl ?_
  refine n_get C I fX12_30_X12 eX12_constants_186 (hN 49 (by decide)) hC.obj rfl ?_
  refine v_bipush (v := (50 : Int32)) C eX12_constants_189 (by decide) ?_
  refine v_bipush (v := (52 : Int32)) C eX12_constants_191 (by decide) ?_
  refine n_callV (As := [.ref (ad 7), .int ((50 : Int32)), .int ((52 : Int32))]) (rest := []) C I mX12_162 (rs_named7 I hN hC h7 _ _) (hN 49 (by decide)) hC.obj rfl (by omega) (by decide) ⟨by decide, by decide⟩ rfl (vi_k (vi_k (vi_k rfl))) (Nat.le_of_ble_eq_true rfl) eX12_constants_193 (fun r σ1 hp => ?_)
  obtain ⟨rfl, hC1, hk1, hi1⟩ := hp
  refine v_aload_n C eX12_constants_196 rfl 0 rfl ?_
  refine v_aload_n C eX12_constants_197 rfl 0 rfl ?_
  refine n_get C I fX12_33_X12 eX12_constants_198 (hN 49 (by decide)) hC1.obj rfl ?_
  refine v_bipush (v := (53 : Int32)) C eX12_constants_201 (by decide) ?_
  refine v_bipush (v := (54 : Int32)) C eX12_constants_203 (by decide) ?_
  refine n_callV (As := [.ref (ad 8), .int ((53 : Int32)), .int ((54 : Int32))]) (rest := []) C I mX12_162 (rs_named8 I hN hC1 (by rw [jt_same (hk1 8 (by decide)), hk1 8 (by decide)]; exact h8) _ _) (hN 49 (by decide)) hC1.obj rfl (by omega) (by decide) ⟨by decide, by decide⟩ rfl (vi_k (vi_k (vi_k rfl))) (Nat.le_of_ble_eq_true rfl) eX12_constants_205 (fun r σ2 hp => ?_)
  obtain ⟨rfl, hC2, hk2, hi2⟩ := hp
  exact n_vret C rfl eX12_constants_208 (hPost _ _ ⟨rfl, hC2, fun k hk => (hk2 k (by omega)).trans (hk1 k (by omega))⟩)

set_option maxRecDepth 100000 in
theorem rs_constants (I : nI1 ad N) (hN : ∀ k, k < 74 → k < N) (hC : RS G ad θ x σ) (h7 : σ 7 = eJ G 8 (jt σ 7)) (h8 : σ 8 = eJ G 8 (jt σ 8)) (h9 : σ 9 = eJ G 16 (jt σ 9)) (h10 : σ 10 = eJ G 16 (jt σ 10)) : nOk G B l ad N yX12_constants cX12_constants 6 none 8 0 0 [.ref (ad 49)] σ (fun r σ' => r = none ∧ RS G ad (tnA θ.1 24, roA θ.2.1 24, cbA θ.2.2.1 408, rtA θ.2.2.2 408) x σ' ∧ (∀ j, ¬ (5 ≤ j ∧ j ≤ 17 ∨ j = 49) → σ' j = σ j)) := by
  refine vOk.of (by decide +kernel) (Nat.le_of_ble_eq_true rfl) ?_
  intro p e s m args below meth c C
  refine v_eq (lv' := [(0, .ref (ad 49))]) rfl rfl rfl ?_
  have t := hC.tab
  refine cs_1 I hN C hC.obj h9 h10 t.1 t.2.1 rfl (by decide) (fun σ1 q1 => ?_)
  obtain ⟨a1, a2, a3, a4, a5⟩ := q1
  refine cs_2 I hN C ((a1 49 (by decide)).trans hC.obj) ((a1 11 (by decide)).trans t.2.2.1) rfl (by decide) (fun σ2 q2 => ?_)
  obtain ⟨b1, b2⟩ := q2
  refine cs_3 I hN C ((b1 49 (by decide)).trans ((a1 49 (by decide)).trans hC.obj)) ((b1 12 (by decide)).trans ((a1 12 (by decide)).trans t.2.2.2)) rfl (by decide) (fun σ3 q3 => ?_)
  obtain ⟨c1, c2⟩ := q3
  have k3 : ∀ k, ¬ (k = 5 ∨ k = 6 ∨ k = 9 ∨ k = 10 ∨ k = 11 ∨ k = 12) → σ3 k = σ k := fun k hk => (c1 k (by omega)).trans ((b1 k (by omega)).trans (a1 k (by omega)))
  have hC3 : RS G ad (tnA θ.1 24, roA θ.2.1 24, cbA θ.2.2.1 408, rtA θ.2.2.2 408) x σ3 := hC.tabs (fun k hk => k3 k (by omega)) ((c1 5 (by decide)).trans ((b1 5 (by decide)).trans a4)) ((c1 6 (by decide)).trans ((b1 6 (by decide)).trans a5)) ((c1 11 (by decide)).trans b2) c2
  exact cs_4 I hN C hC3 (by rw [jt_same (k3 7 (by decide)), k3 7 (by decide)]; exact h7) (by rw [jt_same (k3 8 (by decide)), k3 8 (by decide)]; exact h8) rfl (by decide) (fun r σ' h => ⟨h.1, h.2.1, fun k hk => (h.2.2 k (by omega)).trans (k3 k (by omega))⟩)
end M48
