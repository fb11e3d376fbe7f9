
section M34
variable {G : vG} {B : Nat} {l : Launch} {ad : Nat → Nat} {N : Nat} {θ : tT} {σ : nS}
theorem nrw_rtL {sh : Bool} {nn : Nat} {P H : List Int32} {c hh : Nat} {D : Nat → Nat} {A : Nat → List Int32} {i : Nat} : nrw (rtL (fF θ sh nn P H) c hh D A i) := by
  unfold rtL
  cases hh with
  | zero => exact nrw_fF _ _ _ _ _
  | succ n => exact nrw_fF _ _ _ _ _
theorem nrw_vyW {sh : Bool} {nn hh : Nat} {P : List Int32} {tr : Int64} {i0 : Nat} {PK : List Int32} {a0 : Nat} {w0 : List Int32} (h : nrw w0) : ∀ k, nrw (vyW θ sh nn hh P tr i0 PK a0 w0 k)
  | 0 => h
  | _ + 1 => nrw_rtL
theorem nrw_vyAll {s : Nat} {hw : Bool} {S : sT} : nrw (vyAll θ s hw S) := nrw_vyW (nrw_fF _ _ _ _ _) _
set_option maxRecDepth 100000 in
set_option maxHeartbeats 4000000 in
theorem ra_slhVerify (I : nI1 ad N) (hN : ∀ k, k < 74 → k < N) {S : sT} {T : List Int32} {cd0 : Int32} (hA : RA G ad θ S T cd0 σ) (p0 p1 : Int32) : nOk G B l ad N yX12_slhVerify cX12_slhVerify 8 (some .boolean) 41 0 0 [.ref (ad 49), .int p0, .int p1] σ (fun r σ' => r = some (.int (sp_verify θ S T p0 p1).2.1) ∧ RA G ad θ ((sp_verify θ S T p0 p1).2.2.1) ((sp_verify θ S T p0 p1).2.2.2) ((sp_verify θ S T p0 p1).1) σ' ∧ (∀ k, 74 ≤ k → σ' k = σ k)) := by
  refine vOk.of (by decide +kernel) (Nat.le_of_ble_eq_true rfl) ?_
  intro p e s m args below meth c C
  refine v_eq (lv' := [(0, .ref (ad 49)), (1, .int p0), (2, .int p1)]) rfl rfl rfl ?_
  obtain ⟨x, hC, hcd, hd⟩ := hA
  refine v_aload_n C eX12_slhVerify_0 rfl 0 rfl ?_
  refine v_iload_n C eX12_slhVerify_1 rfl 1 rfl ?_
  refine v_iconst (v := (0 : Int32)) C eX12_slhVerify_2 (by decide) ?_
  refine v_bipush (v := (11 : Int32)) C eX12_slhVerify_3 (by decide) ?_
  refine n_callS (av := [.int p0, .int ((0 : Int32)), .int ((11 : Int32))]) (rest := [.ref (ad 49)]) C mX12_138 (c_in p0 ((0 : Int32)) ((11 : Int32))) rfl (by decide) (by decide) ⟨by decide, by decide⟩ rfl (vi_k (vi_k (vi_k rfl))) (Nat.le_of_ble_eq_true rfl) eX12_slhVerify_5 (fun r ρ hp => ?_)
  obtain ⟨rfl, hρ⟩ := hp
  rw [hρ]
  clear hρ ρ
  by_cases c1 : 0 ≤ p0 ∧ p0 ≤ 11
  · refine v_natT (show (if (0 : Int32) ≤ p0 ∧ p0 ≤ (11 : Int32) then (1 : Int32) else 0) = 1 from if_pos c1) ?_
    refine v_if_eq (tgt := 24) C eX12_slhVerify_8 (by decide) (fun h => absurd h (by decide)) (fun _ => ?_)
    refine v_iload_n C eX12_slhVerify_11 rfl 2 rfl ?_
    refine v_iconst (v := (-1 : Int32)) C eX12_slhVerify_12 (by decide) ?_
    refine v_iconst (v := (0 : Int32)) C eX12_slhVerify_13 (by decide) ?_
    refine n_callS (av := [.int p1, .int ((-1 : Int32)), .int ((0 : Int32))]) (rest := [.ref (ad 49)]) C mX12_138 (c_in p1 ((-1 : Int32)) ((0 : Int32))) rfl (by decide) (by decide) ⟨by decide, by decide⟩ rfl (vi_k (vi_k (vi_k rfl))) (Nat.le_of_ble_eq_true rfl) eX12_slhVerify_14 (fun r ρ hp => ?_)
    obtain ⟨rfl, hρ⟩ := hp
    rw [hρ]
    clear hρ ρ
    by_cases c2 : (-1 : Int32) ≤ p1 ∧ p1 ≤ (0 : Int32)
    · refine v_natT (show (if (-1 : Int32) ≤ p1 ∧ p1 ≤ (0 : Int32) then (1 : Int32) else 0) = 1 from if_pos c2) ?_
      refine v_if_eq (tgt := 24) C eX12_slhVerify_17 (by decide) (fun h => absurd h (by decide)) (fun _ => ?_)
      refine v_iconst (v := (1 : Int32)) C eX12_slhVerify_20 (by decide) ?_
      refine v_goto (tgt := 25) C eX12_slhVerify_21 (by decide) ?_
      refine v_iconst (v := (1 : Int32)) C eX12_slhVerify_25 (by decide) ?_
      refine n_callV (As := [.int ((1 : Int32)), .int ((1 : Int32))]) (rest := []) C I mX12_130 (rs_good1 I hN hC 1) (hN 49 (by decide)) hC.obj rfl (by decide) (by decide) ⟨by decide, by decide⟩ rfl (vi_k (vi_k rfl)) (Nat.le_of_ble_eq_true rfl) eX12_slhVerify_26 (fun r σ1 hp => ?_)
      obtain ⟨rfl, hC1, hk1⟩ := hp
      refine v_if_ne (tgt := 34) C eX12_slhVerify_29 (by decide) (fun _ => ?_) (fun h => absurd h (by decide))
      obtain ⟨hw, hpw⟩ : ∃ hw, p1 = howI hw := ⟨_, how_eq c2⟩
      subst hpw
      rw [show sp_verify θ S T p0 (howI hw) = (if hw = false ∨ (S 4).length ≤ 255 then (if (S 1).length = 2 * pN (ixN p0) then (if (S 5).length = spL (ixN p0) then (0, if vyAll θ (ixN p0) hw S = lsl (S 1) (pN (ixN p0)) (pN (ixN p0)) then 1 else 0, seti S 6 (vyAll θ (ixN p0) hw S), T) else (0, 0, S, T)) else (3, 0, S, T)) else (2, 0, S, T)) from by unfold sp_verify; rw [if_pos ⟨c1, c2⟩, hwB_how]]
      obtain ⟨hp, hpe⟩ := ixN_of (n := 11) rfl c1
      generalize hgs : ixN p0 = s0 at hp hpe
      have hok := set_ok s0 (by omega)
      have hnn := hok.1
      refine v_aload_n C eX12_slhVerify_34 rfl 0 rfl ?_
      refine v_iload_n C eX12_slhVerify_35 rfl 1 rfl ?_
      refine n_callV (As := [.int (nI s0)]) (rest := []) C I mX12_318 (rs_slh I hN hC1 s0 (by omega)) (hN 49 (by decide)) hC1.obj rfl (by decide) (by decide) ⟨by decide, by decide⟩ rfl (vi_c hpe rfl) (Nat.le_of_ble_eq_true rfl) eX12_slhVerify_36 (fun r σ2 hp => ?_)
      obtain ⟨rfl, hC2, hk2⟩ := hp
      have k2 : ∀ k, ¬ (k = 28 ∨ k = 49) → σ2 k = σ k := fun k hk => (hk2 k hk).trans (hk1 k (by omega))
      have hS1 := hd.2 1 (by decide)
      have h651 := hS1.2.1
      have hS3 := hd.2 3 (by decide)
      have h653 := hS3.2.1
      have hS4 := hd.2 4 (by decide)
      have h654 := hS4.2.1
      have hS5 := hd.2 5 (by decide)
      have h655 := hS5.2.1
      refine v_aload_n C eX12_slhVerify_39 rfl 0 rfl ?_
      refine v_aload_n C eX12_slhVerify_40 rfl 0 rfl ?_
      refine v_iload_n C eX12_slhVerify_41 rfl 2 rfl ?_
      refine n_callV (As := [.int (howI hw)]) (rest := [.ref (ad 49)]) C I mX12_325 (rs_context I hN hC2 hw (l4 := (S 4).length) (by rw [bt_same (k2 2 (by decide))]; exact hS4.1) hS4.2.1) (hN 49 (by decide)) hC2.obj rfl (by decide) (by decide) ⟨by decide, by decide⟩ rfl (vi_k rfl) (Nat.le_of_ble_eq_true rfl) eX12_slhVerify_42 (fun r ρ hp => ?_)
      obtain ⟨rfl, hρ⟩ := hp
      rw [hρ]
      clear hρ ρ
      by_cases c3 : hw = false ∨ (S 4).length ≤ 255
      · refine v_natT (show (if hw = false ∨ (S 4).length ≤ 255 then (1 : Int32) else 0) = 1 from if_pos c3) ?_
        rw [if_pos c3]
        refine v_iconst (v := (2 : Int32)) C eX12_slhVerify_45 (by decide) ?_
        refine n_callV (As := [.int ((1 : Int32)), .int ((2 : Int32))]) (rest := []) C I mX12_130 (rs_good1 I hN hC2 2) (hN 49 (by decide)) hC2.obj rfl (by decide) (by decide) ⟨by decide, by decide⟩ rfl (vi_k (vi_k rfl)) (Nat.le_of_ble_eq_true rfl) eX12_slhVerify_46 (fun r σ3 hp => ?_)
        obtain ⟨rfl, hC3, hk3⟩ := hp
        refine v_if_eq (tgt := 80) C eX12_slhVerify_49 (by decide) (fun h => absurd h (by decide)) (fun _ => ?_)
        have k3 : ∀ k, ¬ (k = 28 ∨ k = 49) → σ3 k = σ k := fun k hk => (hk3 k (by omega)).trans (k2 k hk)
        refine v_aload_n C eX12_slhVerify_52 rfl 0 rfl ?_
        refine v_aload_n C eX12_slhVerify_53 rfl 0 rfl ?_
        refine n_get C I fX12_19_X12 eX12_slhVerify_54 (hN 49 (by decide)) hC3.obj rfl ?_
        refine v_iconst (v := (1 : Int32)) C eX12_slhVerify_57 (by decide) ?_
        refine n_iald C I eX12_slhVerify_58 (hN 2 (by decide)) hC3.len 1 (rfl : (1 : Int32) = nI 1) (by omega) (by decide) ?_
        refine v_iconst (v := (2 : Int32)) C eX12_slhVerify_59 (by decide) ?_
        refine v_aload_n C eX12_slhVerify_60 rfl 0 rfl ?_
        refine n_get C I fX12_243_X12 eX12_slhVerify_61 (hN 49 (by decide)) hC3.obj rfl ?_
        refine v_imul C eX12_slhVerify_64 ?_
        by_cases c4 : (S 1).length = 2 * pN s0
        · refine v_icmp_ne (tgt := 72) C eX12_slhVerify_65 (by decide) (fun h => absurd (ix_eq (a := (S 1).length) (b := 2 * (pN s0)) (by rw [bt_same (k3 2 (by decide))]; exact (hd.2 1 (by decide)).1) (ix_mul (a := 2) (b := pN s0) (rfl : (2 : Int32) = nI 2) (hC3.i41.trans (rfl : _ = nI (pN s0)))) (by omega) (by omega) (by omega)) h) (fun _ => ?_)
          rw [if_pos c4]
          refine v_iconst (v := (1 : Int32)) C eX12_slhVerify_68 (by decide) ?_
          refine v_goto (tgt := 73) C eX12_slhVerify_69 (by decide) ?_
          refine v_iconst (v := (3 : Int32)) C eX12_slhVerify_73 (by decide) ?_
          refine n_callV (As := [.int ((1 : Int32)), .int ((3 : Int32))]) (rest := []) C I mX12_130 (rs_good1 I hN hC3 3) (hN 49 (by decide)) hC3.obj rfl (by decide) (by decide) ⟨by decide, by decide⟩ rfl (vi_k (vi_k rfl)) (Nat.le_of_ble_eq_true rfl) eX12_slhVerify_74 (fun r σ4 hp => ?_)
          obtain ⟨rfl, hC4, hk4⟩ := hp
          refine v_if_ne (tgt := 82) C eX12_slhVerify_77 (by decide) (fun _ => ?_) (fun h => absurd h (by decide))
          have k4 : ∀ k, ¬ (k = 28 ∨ k = 49) → σ4 k = σ k := fun k hk => (hk4 k (by omega)).trans (k3 k hk)
          refine v_aload_n C eX12_slhVerify_82 rfl 0 rfl ?_
          refine n_get C I fX12_19_X12 eX12_slhVerify_83 (hN 49 (by decide)) hC4.obj rfl ?_
          refine v_iconst (v := (5 : Int32)) C eX12_slhVerify_86 (by decide) ?_
          refine n_iald C I eX12_slhVerify_87 (hN 2 (by decide)) hC4.len 5 (rfl : (5 : Int32) = nI 5) (by omega) (by decide) ?_
          refine v_aload_n C eX12_slhVerify_88 rfl 0 rfl ?_
          refine n_get C I fX12_243_X12 eX12_slhVerify_89 (hN 49 (by decide)) hC4.obj rfl ?_
          refine v_iconst (v := (1 : Int32)) C eX12_slhVerify_92 (by decide) ?_
          refine v_aload_n C eX12_slhVerify_93 rfl 0 rfl ?_
          refine n_get C I fX12_255_X12 eX12_slhVerify_94 (hN 49 (by decide)) hC4.obj rfl ?_
          refine v_iconst (v := (1 : Int32)) C eX12_slhVerify_97 (by decide) ?_
          refine v_aload_n C eX12_slhVerify_98 rfl 0 rfl ?_
          refine n_get C I fX12_252_X12 eX12_slhVerify_99 (hN 49 (by decide)) hC4.obj rfl ?_
          refine v_iadd C eX12_slhVerify_102 ?_
          refine v_imul C eX12_slhVerify_103 ?_
          refine v_iadd C eX12_slhVerify_104 ?_
          refine v_aload_n C eX12_slhVerify_105 rfl 0 rfl ?_
          refine n_get C I fX12_246_X12 eX12_slhVerify_106 (hN 49 (by decide)) hC4.obj rfl ?_
          refine v_iadd C eX12_slhVerify_109 ?_
          refine v_aload_n C eX12_slhVerify_110 rfl 0 rfl ?_
          refine n_get C I fX12_249_X12 eX12_slhVerify_111 (hN 49 (by decide)) hC4.obj rfl ?_
          refine v_aload_n C eX12_slhVerify_114 rfl 0 rfl ?_
          refine n_get C I fX12_261_X12 eX12_slhVerify_115 (hN 49 (by decide)) hC4.obj rfl ?_
          refine v_imul C eX12_slhVerify_118 ?_
          refine v_iadd C eX12_slhVerify_119 ?_
          refine v_imul C eX12_slhVerify_120 ?_
          refine v_natT (show ((ox σ4) 41) * (((((1 : Int32)) + (((ox σ4) 46) * (((1 : Int32)) + ((ox σ4) 45)))) + ((ox σ4) 42)) + (((ox σ4) 43) * ((ox σ4) 47))) = nI (spL s0) from ((ix_mul (a := pN s0) (b := ((1 + ((pK s0) * (1 + (pA s0)))) + (pH s0)) + ((pD s0) * (2 * pN s0 + 3))) (hC4.i41.trans (rfl : _ = nI (pN s0))) (ix_add (a := (1 + ((pK s0) * (1 + (pA s0)))) + (pH s0)) (b := (pD s0) * (2 * pN s0 + 3)) (ix_add (a := 1 + ((pK s0) * (1 + (pA s0)))) (b := pH s0) (ix_add (a := 1) (b := (pK s0) * (1 + (pA s0))) (rfl : (1 : Int32) = nI 1) (ix_mul (a := pK s0) (b := 1 + (pA s0)) (hC4.i46.trans (rfl : _ = nI (pK s0))) (ix_add (a := 1) (b := pA s0) (rfl : (1 : Int32) = nI 1) (hC4.i45.trans (rfl : _ = nI (pA s0)))))) (hC4.i42.trans (rfl : _ = nI (pH s0)))) (ix_mul (a := pD s0) (b := 2 * pN s0 + 3) (hC4.i43.trans (rfl : _ = nI (pD s0))) (hC4.i47.trans (rfl : _ = nI (2 * pN s0 + 3))))))).trans (congrArg nI hok.2.2.2.2.2.2.2.2.2.2)) ?_
          have hspl := hok.2.2.2.2.2.2.2.2.2.1
          by_cases c5 : (S 5).length = spL s0
          · refine v_icmp_eq (tgt := 126) C eX12_slhVerify_121 (by decide) (fun _ => ?_) (fun h => absurd (ix_eq (a := (S 5).length) (b := spL s0) (by rw [bt_same (k4 2 (by decide))]; exact (hd.2 5 (by decide)).1) (rfl : nI (spL s0) = nI (spL s0)) (by omega) (by omega) (by omega)) h)
            rw [if_pos c5]
            refine v_pick (lv' := [(0, .ref (ad 49)), (2, .int (howI hw))]) [0, 2] rfl ?_
            generalize hy : upd (upd (xS (upd x 4 0) s0) 4 0) 4 0 = y at hC4
            have y3 : y 3 = x 3 := by rw [← hy]; rfl
            have y4 : y 4 = 0 := by rw [← hy]; rfl
            have y41 : y 41 = nI (pN s0) := by rw [← hy]; rfl
            have y42 : y 42 = nI (pH s0) := by rw [← hy]; rfl
            have y43 : y 43 = nI (pD s0) := by rw [← hy]; rfl
            have y44 : y 44 = nI (pP s0) := by rw [← hy]; rfl
            have y45 : y 45 = nI (pA s0) := by rw [← hy]; rfl
            have y46 : y 46 = nI (pK s0) := by rw [← hy]; rfl
            have y47 : y 47 = nI (2 * pN s0 + 3) := by rw [← hy]; rfl
            have y48 : y 48 = if shB s0 = true then 1 else 0 := by rw [← hy]; exact sh_eq
            have r1 : sl (bt σ4 51) 0 (2 * pN s0) = S 1 := by rw [bt_same (k4 51 (by decide)), ← c4]; exact hS1.2.2.1
            have r5 : sl (bt σ4 55) 0 (spL s0) = S 5 := by rw [bt_same (k4 55 (by decide)), ← c5]; exact hS5.2.2.1
            have hnl : pN s0 ≤ spL s0 := Nat.le_trans (Nat.le_add_right _ _) (Nat.le_add_right _ _)
            refine rs_verifyB I hN C hC4 (sh := shB s0) (nn := pN s0) y41 hnn y42 y43 y44 hok.2.1 y45 hok.2.2.1 y46 hok.2.2.2.1 y47 y48 hok.2.2.2.2.1 hok.2.2.2.2.2.1 hok.2.2.2.2.2.2.1 (mm := spM s0) rfl hok.2.2.2.2.2.2.2.2.1 hw (l3 := (S 3).length) (l4 := (S 4).length) (by rw [bt_same (k4 2 (by decide))]; exact hS3.1) (by rw [bt_same (k4 2 (by decide))]; exact hS4.1) hS3.2.1 hS4.2.1 (by rw [r1]; exact hS1.2.2.2) (L5 := spL s0) rfl hspl (by rw [r5]; exact hS5.2.2.2) rfl (by decide) (fun r σ' h => ?_)
            obtain ⟨h1, h2, h3, h4, h5⟩ := h
            have m4 : sl (bt σ 54) 0 (S 4).length = S 4 := hS4.2.2.1
            have m3 : sl (bt σ 53) 0 (S 3).length = S 3 := hS3.2.2.1
            rw [sl_lsl (f := bt σ4 55) (a := 0) (n := pN s0) (m := spL s0) (by omega), r5, sl_lsl (f := bt σ4 51) (a := 0) (n := pN s0) (m := 2 * pN s0) (by omega), sl_lsl (f := bt σ4 51) (a := pN s0) (n := pN s0) (m := 2 * pN s0) (by omega), r1, bt_same (k4 54 (by decide)), bt_same (k4 53 (by decide)), m4, m3] at h1
            rw [sl_lsl (f := bt σ4 55) (a := 0) (n := pN s0) (m := spL s0) (by omega), r5, sl_lsl (f := bt σ4 51) (a := 0) (n := pN s0) (m := 2 * pN s0) (by omega), sl_lsl (f := bt σ4 51) (a := pN s0) (n := pN s0) (m := 2 * pN s0) (by omega), r1, bt_same (k4 54 (by decide)), bt_same (k4 53 (by decide)), m4, m3] at h5
            have hl : (vyAll θ s0 hw S).length = pN s0 := by rw [show vyAll θ s0 hw S = _ from h5.symm, sl_len]
            refine ⟨h1, ⟨y, h2, y4, ?_⟩, fun k hk => (h3 k (by omega)).trans (k4 k (by omega))⟩
            rw [y3]
            exact hd.set (fun k hk => (h3 k (by omega)).trans (k4 k (by omega))) (by rw [hl, h4, bt_same (k4 2 (by decide))]) (by rw [hl]; omega) (by rw [hl]; exact h5) nrw_vyAll
          · refine v_icmp_eq (tgt := 126) C eX12_slhVerify_121 (by decide) (fun h => absurd h (ix_ne (a := (S 5).length) (b := spL s0) (by rw [bt_same (k4 2 (by decide))]; exact (hd.2 5 (by decide)).1) (rfl : nI (spL s0) = nI (spL s0)) (by omega) (by omega) (by omega))) (fun _ => ?_)
            rw [if_neg c5]
            refine v_iconst (v := (0 : Int32)) C eX12_slhVerify_124 (by decide) ?_
            exact n_zret C rfl rfl eX12_slhVerify_125 ⟨rfl, ⟨_, hC4, rfl, hd.keep (fun k hk => k4 k (by omega))⟩, fun k hk => k4 k (by omega)⟩
        · refine v_icmp_ne (tgt := 72) C eX12_slhVerify_65 (by decide) (fun _ => ?_) (fun h => absurd h (ix_ne (a := (S 1).length) (b := 2 * (pN s0)) (by rw [bt_same (k3 2 (by decide))]; exact (hd.2 1 (by decide)).1) (ix_mul (a := 2) (b := pN s0) (rfl : (2 : Int32) = nI 2) (hC3.i41.trans (rfl : _ = nI (pN s0)))) (by omega) (by omega) (by omega)))
          rw [if_neg c4]
          refine v_iconst (v := (0 : Int32)) C eX12_slhVerify_72 (by decide) ?_
          refine v_iconst (v := (3 : Int32)) C eX12_slhVerify_73 (by decide) ?_
          refine n_callV (As := [.int ((0 : Int32)), .int ((3 : Int32))]) (rest := []) C I mX12_130 (rs_good0 I hN hC3 3) (hN 49 (by decide)) hC3.obj rfl (by decide) (by decide) ⟨by decide, by decide⟩ rfl (vi_k (vi_k rfl)) (Nat.le_of_ble_eq_true rfl) eX12_slhVerify_74 (fun r σ4 hp => ?_)
          obtain ⟨rfl, hC4, hk4⟩ := hp
          refine v_if_ne (tgt := 82) C eX12_slhVerify_77 (by decide) (fun h => absurd (by decide) h) (fun _ => ?_)
          refine v_iconst (v := (0 : Int32)) C eX12_slhVerify_80 (by decide) ?_
          exact n_zret C rfl rfl eX12_slhVerify_81 ⟨rfl, ⟨upd _ 4 3, hC4, rfl, hd.keep (fun k hk => (hk4 k (by omega)).trans (k3 k (by omega)))⟩, fun k hk => (hk4 k (by omega)).trans (k3 k (by omega))⟩
      · refine v_natT (show (if hw = false ∨ (S 4).length ≤ 255 then (1 : Int32) else 0) = 0 from if_neg c3) ?_
        rw [if_neg c3]
        refine v_iconst (v := (2 : Int32)) C eX12_slhVerify_45 (by decide) ?_
        refine n_callV (As := [.int ((0 : Int32)), .int ((2 : Int32))]) (rest := []) C I mX12_130 (rs_good0 I hN hC2 2) (hN 49 (by decide)) hC2.obj rfl (by decide) (by decide) ⟨by decide, by decide⟩ rfl (vi_k (vi_k rfl)) (Nat.le_of_ble_eq_true rfl) eX12_slhVerify_46 (fun r σ3 hp => ?_)
        obtain ⟨rfl, hC3, hk3⟩ := hp
        refine v_if_eq (tgt := 80) C eX12_slhVerify_49 (by decide) (fun _ => ?_) (fun h => absurd rfl h)
        refine v_iconst (v := (0 : Int32)) C eX12_slhVerify_80 (by decide) ?_
        exact n_zret C rfl rfl eX12_slhVerify_81 ⟨rfl, ⟨upd _ 4 2, hC3, rfl, hd.keep (fun k hk => (hk3 k (by omega)).trans (k2 k (by omega)))⟩, fun k hk => (hk3 k (by omega)).trans (k2 k (by omega))⟩
    · refine v_natT (show (if (-1 : Int32) ≤ p1 ∧ p1 ≤ (0 : Int32) then (1 : Int32) else 0) = 0 from if_neg c2) ?_
      refine v_if_eq (tgt := 24) C eX12_slhVerify_17 (by decide) (fun _ => ?_) (fun h => absurd rfl h)
      refine v_iconst (v := (0 : Int32)) C eX12_slhVerify_24 (by decide) ?_
      refine v_iconst (v := (1 : Int32)) C eX12_slhVerify_25 (by decide) ?_
      refine n_callV (As := [.int ((0 : Int32)), .int ((1 : Int32))]) (rest := []) C I mX12_130 (rs_good0 I hN hC 1) (hN 49 (by decide)) hC.obj rfl (by decide) (by decide) ⟨by decide, by decide⟩ rfl (vi_k (vi_k rfl)) (Nat.le_of_ble_eq_true rfl) eX12_slhVerify_26 (fun r σ1 hp => ?_)
      obtain ⟨rfl, hC1, hk1⟩ := hp
      rw [show sp_verify θ S T p0 p1 = (1, 0, S, T) from if_neg (fun q => c2 q.2)]
      refine v_if_ne (tgt := 34) C eX12_slhVerify_29 (by decide) (fun h => absurd (by decide) h) (fun _ => ?_)
      refine v_iconst (v := (0 : Int32)) C eX12_slhVerify_32 (by decide) ?_
      exact n_zret C rfl rfl eX12_slhVerify_33 ⟨rfl, ⟨upd _ 4 1, hC1, rfl, hd.keep (fun k hk => hk1 k (by omega))⟩, fun k hk => hk1 k (by omega)⟩
  · refine v_natT (show (if (0 : Int32) ≤ p0 ∧ p0 ≤ (11 : Int32) then (1 : Int32) else 0) = 0 from if_neg c1) ?_
    refine v_if_eq (tgt := 24) C eX12_slhVerify_8 (by decide) (fun _ => ?_) (fun h => absurd rfl h)
    refine v_iconst (v := (0 : Int32)) C eX12_slhVerify_24 (by decide) ?_
    refine v_iconst (v := (1 : Int32)) C eX12_slhVerify_25 (by decide) ?_
    refine n_callV (As := [.int ((0 : Int32)), .int ((1 : Int32))]) (rest := []) C I mX12_130 (rs_good0 I hN hC 1) (hN 49 (by decide)) hC.obj rfl (by decide) (by decide) ⟨by decide, by decide⟩ rfl (vi_k (vi_k rfl)) (Nat.le_of_ble_eq_true rfl) eX12_slhVerify_26 (fun r σ1 hp => ?_)
    obtain ⟨rfl, hC1, hk1⟩ := hp
    rw [show sp_verify θ S T p0 p1 = (1, 0, S, T) from if_neg (fun q => c1 q.1)]
    refine v_if_ne (tgt := 34) C eX12_slhVerify_29 (by decide) (fun h => absurd (by decide) h) (fun _ => ?_)
    refine v_iconst (v := (0 : Int32)) C eX12_slhVerify_32 (by decide) ?_
    exact n_zret C rfl rfl eX12_slhVerify_33 ⟨rfl, ⟨upd _ 4 1, hC1, rfl, hd.keep (fun k hk => hk1 k (by omega))⟩, fun k hk => hk1 k (by omega)⟩

set_option maxRecDepth 100000 in
set_option maxHeartbeats 4000000 in
theorem ra_slhNode (I : nI1 ad N) (hN : ∀ k, k < 74 → k < N) {S : sT} {T : List Int32} {cd0 : Int32} (hA : RA G ad θ S T cd0 σ) (p0 p1 p2 p3 p4 : Int32) : nOk G B l ad N yX12_slhNode cX12_slhNode 6 (some .int) 41 0 0 [.ref (ad 49), .int p0, .int p1, .int p2, .int p3, .int p4] σ (fun r σ' => r = some (.int (sp_node θ S T p0 p1 p2 p3 p4).2.1) ∧ RA G ad θ ((sp_node θ S T p0 p1 p2 p3 p4).2.2.1) ((sp_node θ S T p0 p1 p2 p3 p4).2.2.2) ((sp_node θ S T p0 p1 p2 p3 p4).1) σ' ∧ (∀ k, 74 ≤ k → σ' k = σ k)) := by
  refine vOk.of (by decide +kernel) (Nat.le_of_ble_eq_true rfl) ?_
  intro p e s m args below meth c C
  refine v_eq (lv' := [(0, .ref (ad 49)), (1, .int p0), (2, .int p1), (3, .int p2), (4, .int p3), (5, .int p4)]) rfl rfl rfl ?_
  obtain ⟨x, hC, hcd, hd⟩ := hA
  refine v_aload_n C eX12_slhNode_0 rfl 0 rfl ?_
  refine v_iload_n C eX12_slhNode_1 rfl 1 rfl ?_
  refine v_iconst (v := (0 : Int32)) C eX12_slhNode_2 (by decide) ?_
  refine v_bipush (v := (11 : Int32)) C eX12_slhNode_3 (by decide) ?_
  refine n_callS (av := [.int p0, .int ((0 : Int32)), .int ((11 : Int32))]) (rest := [.ref (ad 49)]) C mX12_138 (c_in p0 ((0 : Int32)) ((11 : Int32))) rfl (by decide) (by decide) ⟨by decide, by decide⟩ rfl (vi_k (vi_k (vi_k rfl))) (Nat.le_of_ble_eq_true rfl) eX12_slhNode_5 (fun r ρ hp => ?_)
  obtain ⟨rfl, hρ⟩ := hp
  rw [hρ]
  clear hρ ρ
  by_cases c1 : 0 ≤ p0 ∧ p0 ≤ 11
  · refine v_natT (show (if (0 : Int32) ≤ p0 ∧ p0 ≤ (11 : Int32) then (1 : Int32) else 0) = 1 from if_pos c1) ?_
    refine v_iconst (v := (1 : Int32)) C eX12_slhNode_8 (by decide) ?_
    refine n_callV (As := [.int ((1 : Int32)), .int ((1 : Int32))]) (rest := []) C I mX12_130 (rs_good1 I hN hC 1) (hN 49 (by decide)) hC.obj rfl (by decide) (by decide) ⟨by decide, by decide⟩ rfl (vi_k (vi_k rfl)) (Nat.le_of_ble_eq_true rfl) eX12_slhNode_9 (fun r σ1 hp => ?_)
    obtain ⟨rfl, hC1, hk1⟩ := hp
    refine v_if_ne (tgt := 17) C eX12_slhNode_12 (by decide) (fun _ => ?_) (fun h => absurd h (by decide))
    rw [show sp_node θ S T p0 p1 p2 p3 p4 = (if (0 ≤ p1 ∧ p1 ≤ nI (pD (ixN p0)) - 1) ∧ 0 ≤ p2 ∧ (0 ≤ p3 ∧ p3 ≤ nI (pP (ixN p0))) ∧ 0 ≤ p4 ∧ p4 ≤ nI (2 ^ (pP (ixN p0) - ixN p3)) - 1 then (if (S 2).length = 4 * pN (ixN p0) then (0, if ndAll θ (ixN p0) S (ixN p1) (ixN p3) (ixN p4) p2 = lsl (S 2) (3 * pN (ixN p0)) (pN (ixN p0)) then 1 else 0, seti S 6 (ndAll θ (ixN p0) S (ixN p1) (ixN p3) (ixN p4) p2), T) else (2, 0, S, T)) else (1, 0, S, T)) from if_pos c1]
    obtain ⟨hp, hpe⟩ := ixN_of (n := 11) rfl c1
    generalize hgs : ixN p0 = s0 at hp hpe
    have hok := set_ok s0 (by omega)
    have hnn := hok.1
    refine v_aload_n C eX12_slhNode_17 rfl 0 rfl ?_
    refine v_iload_n C eX12_slhNode_18 rfl 1 rfl ?_
    refine n_callV (As := [.int (nI s0)]) (rest := []) C I mX12_318 (rs_slh I hN hC1 s0 (by omega)) (hN 49 (by decide)) hC1.obj rfl (by decide) (by decide) ⟨by decide, by decide⟩ rfl (vi_c hpe rfl) (Nat.le_of_ble_eq_true rfl) eX12_slhNode_19 (fun r σ2 hp => ?_)
    obtain ⟨rfl, hC2, hk2⟩ := hp
    have k2 : ∀ k, ¬ (k = 28 ∨ k = 49) → σ2 k = σ k := fun k hk => (hk2 k hk).trans (hk1 k (by omega))
    have hS2 := hd.2 2 (by decide)
    have h652 := hS2.2.1
    refine v_aload_n C eX12_slhNode_22 rfl 0 rfl ?_
    refine v_iload_n C eX12_slhNode_23 rfl 2 rfl ?_
    refine v_iconst (v := (0 : Int32)) C eX12_slhNode_24 (by decide) ?_
    refine v_aload_n C eX12_slhNode_25 rfl 0 rfl ?_
    refine n_get C I fX12_249_X12 eX12_slhNode_26 (hN 49 (by decide)) hC2.obj rfl ?_
    refine v_natT (show (ox σ2) 43 = nI (pD s0) from (hC2.i43.trans (rfl : _ = nI (pD s0)))) ?_
    refine v_iconst (v := (1 : Int32)) C eX12_slhNode_29 (by decide) ?_
    refine v_isub C eX12_slhNode_30 ?_
    refine n_callS (av := [.int p1, .int ((0 : Int32)), .int ((nI (pD s0)) - ((1 : Int32)))]) (rest := [.ref (ad 49)]) C mX12_138 (c_in p1 ((0 : Int32)) ((nI (pD s0)) - ((1 : Int32)))) rfl (by decide) (by decide) ⟨by decide, by decide⟩ rfl (vi_k (vi_k (vi_k rfl))) (Nat.le_of_ble_eq_true rfl) eX12_slhNode_31 (fun r ρ hp => ?_)
    obtain ⟨rfl, hρ⟩ := hp
    rw [hρ]
    clear hρ ρ
    by_cases c2 : (0 : Int32) ≤ p1 ∧ p1 ≤ (nI (pD s0)) - (1 : Int32)
    · refine v_natT (show (if (0 : Int32) ≤ p1 ∧ p1 ≤ (nI (pD s0)) - ((1 : Int32)) then (1 : Int32) else 0) = 1 from if_pos c2) ?_
      refine v_if_eq (tgt := 78) C eX12_slhNode_34 (by decide) (fun h => absurd h (by decide)) (fun _ => ?_)
      refine v_iload_n C eX12_slhNode_37 rfl 3 rfl ?_
      refine v_if_lt (tgt := 78) C eX12_slhNode_38 (by decide) (fun c1 => ?_) (fun c1 => ?_)
      · rw [if_neg (fun q => absurd c1 (Int32.not_lt.mpr q.2.1))]
        refine v_iconst (v := (0 : Int32)) C eX12_slhNode_78 (by decide) ?_
        refine v_iconst (v := (1 : Int32)) C eX12_slhNode_79 (by decide) ?_
        refine n_callV (As := [.int ((0 : Int32)), .int ((1 : Int32))]) (rest := []) C I mX12_130 (rs_good0 I hN hC2 1) (hN 49 (by decide)) hC2.obj rfl (by decide) (by decide) ⟨by decide, by decide⟩ rfl (vi_k (vi_k rfl)) (Nat.le_of_ble_eq_true rfl) eX12_slhNode_80 (fun r σ3 hp => ?_)
        obtain ⟨rfl, hC3, hk3⟩ := hp
        refine v_if_eq (tgt := 114) C eX12_slhNode_83 (by decide) (fun _ => ?_) (fun h => absurd rfl h)
        refine v_iconst (v := (0 : Int32)) C eX12_slhNode_114 (by decide) ?_
        exact n_iret C rfl eX12_slhNode_115 ⟨rfl, ⟨upd _ 4 1, hC3, rfl, hd.keep (fun k hk => (hk3 k (by omega)).trans (k2 k (by omega)))⟩, fun k hk => (hk3 k (by omega)).trans (k2 k (by omega))⟩
      · refine v_iload C eX12_slhNode_41 4 rfl ?_
        refine v_iconst (v := (0 : Int32)) C eX12_slhNode_43 (by decide) ?_
        refine v_aload_n C eX12_slhNode_44 rfl 0 rfl ?_
        refine n_get C I fX12_258_X12 eX12_slhNode_45 (hN 49 (by decide)) hC2.obj rfl ?_
        refine v_natT (show (ox σ2) 44 = nI (pP s0) from (hC2.i44.trans (rfl : _ = nI (pP s0)))) ?_
        refine n_callS (av := [.int p3, .int ((0 : Int32)), .int (nI (pP s0))]) (rest := [.ref (ad 49)]) C mX12_138 (c_in p3 ((0 : Int32)) (nI (pP s0))) rfl (by decide) (by decide) ⟨by decide, by decide⟩ rfl (vi_k (vi_k (vi_k rfl))) (Nat.le_of_ble_eq_true rfl) eX12_slhNode_48 (fun r ρ hp => ?_)
        obtain ⟨rfl, hρ⟩ := hp
        rw [hρ]
        clear hρ ρ
        by_cases c3 : (0 : Int32) ≤ p3 ∧ p3 ≤ nI (pP s0)
        · refine v_natT (show (if (0 : Int32) ≤ p3 ∧ p3 ≤ nI (pP s0) then (1 : Int32) else 0) = 1 from if_pos c3) ?_
          refine v_if_eq (tgt := 78) C eX12_slhNode_51 (by decide) (fun h => absurd h (by decide)) (fun _ => ?_)
          obtain ⟨hz, hze⟩ := ixN_of (n := pP s0) (nI_toInt (by omega)) c3
          generalize hgz : ixN p3 = z0 at hz hze
          have hpw : 2 ^ (pP s0 - z0) ≤ 2 ^ 9 := Nat.pow_le_pow_right (by decide) (by omega)
          have hpw1 : 1 ≤ 2 ^ (pP s0 - z0) := Nat.one_le_two_pow
          refine v_iload C eX12_slhNode_54 5 rfl ?_
          refine v_iconst (v := (0 : Int32)) C eX12_slhNode_56 (by decide) ?_
          refine v_iconst (v := (1 : Int32)) C eX12_slhNode_57 (by decide) ?_
          refine v_aload_n C eX12_slhNode_58 rfl 0 rfl ?_
          refine n_get C I fX12_258_X12 eX12_slhNode_59 (hN 49 (by decide)) hC2.obj rfl ?_
          refine v_iload C eX12_slhNode_62 4 rfl ?_
          refine v_isub C eX12_slhNode_64 ?_
          refine v_ishl C eX12_slhNode_65 ?_
          refine v_natT (show ((1 : Int32)) <<< ((((ox σ2) 44) - p3) &&& 31) = nI (2 ^ (pP s0 - z0)) from ((ix_shlV (a := 1) (j := (pP s0) - z0) (rfl : (1 : Int32) = nI 1) (ix_sub (a := pP s0) (b := z0) (hC2.i44.trans (rfl : _ = nI (pP s0))) hze (by omega)) (by omega) (by omega))).trans (congrArg nI (Nat.one_mul _))) ?_
          refine v_iconst (v := (1 : Int32)) C eX12_slhNode_66 (by decide) ?_
          refine v_isub C eX12_slhNode_67 ?_
          refine n_callS (av := [.int p4, .int ((0 : Int32)), .int ((nI (2 ^ (pP s0 - z0))) - ((1 : Int32)))]) (rest := [.ref (ad 49)]) C mX12_138 (c_in p4 ((0 : Int32)) ((nI (2 ^ (pP s0 - z0))) - ((1 : Int32)))) rfl (by decide) (by decide) ⟨by decide, by decide⟩ rfl (vi_k (vi_k (vi_k rfl))) (Nat.le_of_ble_eq_true rfl) eX12_slhNode_68 (fun r ρ hp => ?_)
          obtain ⟨rfl, hρ⟩ := hp
          rw [hρ]
          clear hρ ρ
          by_cases c4 : (0 : Int32) ≤ p4 ∧ p4 ≤ (nI (2 ^ (pP s0 - z0))) - (1 : Int32)
          · refine v_natT (show (if (0 : Int32) ≤ p4 ∧ p4 ≤ (nI (2 ^ (pP s0 - z0))) - ((1 : Int32)) then (1 : Int32) else 0) = 1 from if_pos c4) ?_
            refine v_if_eq (tgt := 78) C eX12_slhNode_71 (by decide) (fun h => absurd h (by decide)) (fun _ => ?_)
            refine v_iconst (v := (1 : Int32)) C eX12_slhNode_74 (by decide) ?_
            refine v_goto (tgt := 79) C eX12_slhNode_75 (by decide) ?_
            rw [if_pos ⟨c2, Int32.not_lt.mp c1, c3, c4⟩]
            refine v_iconst (v := (1 : Int32)) C eX12_slhNode_79 (by decide) ?_
            refine n_callV (As := [.int ((1 : Int32)), .int ((1 : Int32))]) (rest := []) C I mX12_130 (rs_good1 I hN hC2 1) (hN 49 (by decide)) hC2.obj rfl (by decide) (by decide) ⟨by decide, by decide⟩ rfl (vi_k (vi_k rfl)) (Nat.le_of_ble_eq_true rfl) eX12_slhNode_80 (fun r σ3 hp => ?_)
            obtain ⟨rfl, hC3, hk3⟩ := hp
            refine v_if_eq (tgt := 114) C eX12_slhNode_83 (by decide) (fun h => absurd h (by decide)) (fun _ => ?_)
            have k3 : ∀ k, ¬ (k = 28 ∨ k = 49) → σ3 k = σ k := fun k hk => (hk3 k (by omega)).trans (k2 k hk)
            refine v_aload_n C eX12_slhNode_86 rfl 0 rfl ?_
            refine v_aload_n C eX12_slhNode_87 rfl 0 rfl ?_
            refine n_get C I fX12_19_X12 eX12_slhNode_88 (hN 49 (by decide)) hC3.obj rfl ?_
            refine v_iconst (v := (2 : Int32)) C eX12_slhNode_91 (by decide) ?_
            refine n_iald C I eX12_slhNode_92 (hN 2 (by decide)) hC3.len 2 (rfl : (2 : Int32) = nI 2) (by omega) (by decide) ?_
            refine v_iconst (v := (4 : Int32)) C eX12_slhNode_93 (by decide) ?_
            refine v_aload_n C eX12_slhNode_94 rfl 0 rfl ?_
            refine n_get C I fX12_243_X12 eX12_slhNode_95 (hN 49 (by decide)) hC3.obj rfl ?_
            refine v_imul C eX12_slhNode_98 ?_
            by_cases c5 : (S 2).length = 4 * pN s0
            · refine v_icmp_ne (tgt := 106) C eX12_slhNode_99 (by decide) (fun h => absurd (ix_eq (a := (S 2).length) (b := 4 * (pN s0)) (by rw [bt_same (k3 2 (by decide))]; exact (hd.2 2 (by decide)).1) (ix_mul (a := 4) (b := pN s0) (rfl : (4 : Int32) = nI 4) (hC3.i41.trans (rfl : _ = nI (pN s0)))) (by omega) (by omega) (by omega)) h) (fun _ => ?_)
              rw [if_pos c5]
              refine v_iconst (v := (1 : Int32)) C eX12_slhNode_102 (by decide) ?_
              refine v_goto (tgt := 107) C eX12_slhNode_103 (by decide) ?_
              refine v_iconst (v := (2 : Int32)) C eX12_slhNode_107 (by decide) ?_
              refine n_callV (As := [.int ((1 : Int32)), .int ((2 : Int32))]) (rest := []) C I mX12_130 (rs_good1 I hN hC3 2) (hN 49 (by decide)) hC3.obj rfl (by decide) (by decide) ⟨by decide, by decide⟩ rfl (vi_k (vi_k rfl)) (Nat.le_of_ble_eq_true rfl) eX12_slhNode_108 (fun r σ4 hp => ?_)
              obtain ⟨rfl, hC4, hk4⟩ := hp
              refine v_if_ne (tgt := 116) C eX12_slhNode_111 (by decide) (fun _ => ?_) (fun h => absurd h (by decide))
              have k4 : ∀ k, ¬ (k = 28 ∨ k = 49) → σ4 k = σ k := fun k hk => (hk4 k (by omega)).trans (k3 k hk)
              refine v_pick (lv' := [(0, .ref (ad 49)), (2, .int p1), (3, .int p2), (4, .int p3), (5, .int p4)]) [0, 2, 3, 4, 5] rfl ?_
              generalize hy : upd (upd (xS (upd x 4 0) s0) 4 0) 4 0 = y at hC4
              have y3 : y 3 = x 3 := by rw [← hy]; rfl
              have y4 : y 4 = 0 := by rw [← hy]; rfl
              have y41 : y 41 = nI (pN s0) := by rw [← hy]; rfl
              have y42 : y 42 = nI (pH s0) := by rw [← hy]; rfl
              have y43 : y 43 = nI (pD s0) := by rw [← hy]; rfl
              have y44 : y 44 = nI (pP s0) := by rw [← hy]; rfl
              have y45 : y 45 = nI (pA s0) := by rw [← hy]; rfl
              have y46 : y 46 = nI (pK s0) := by rw [← hy]; rfl
              have y47 : y 47 = nI (2 * pN s0 + 3) := by rw [← hy]; rfl
              have y48 : y 48 = if shB s0 = true then 1 else 0 := by rw [← hy]; exact sh_eq
              obtain ⟨hl1, hle⟩ := len1 (n := pD s0) (by omega) c2
              obtain ⟨hi1, hie⟩ := len1 (n := 2 ^ (pP s0 - z0)) (by omega) c4
              generalize hgl : ixN p1 = l1 at hl1 hle
              generalize hgi : ixN p4 = i1 at hi1 hie
              have hi30 : (i1 + 1) * 2 ^ z0 ≤ 2 ^ 30 := by
                have h1 := Nat.mul_le_mul_right (2 ^ z0) (show i1 + 1 ≤ 2 ^ (pP s0 - z0) from hi1)
                rw [← Nat.pow_add, show pP s0 - z0 + z0 = pP s0 by omega] at h1
                exact Nat.le_trans h1 (Nat.pow_le_pow_right (by decide) (by omega))
              have r2 : sl (bt σ4 52) 0 (4 * pN s0) = S 2 := by rw [bt_same (k4 52 (by decide)), ← c5]; exact hS2.2.2.1
              have q2 : ∀ a, a + pN s0 ≤ 4 * pN s0 → sl (bt σ4 52) a (pN s0) = lsl (S 2) a (pN s0) := fun a ha => by rw [sl_lsl (m := 4 * pN s0) ha, r2]
              subst hle; subst hie; subst hze
              refine rs_nodeB I hN C hC4 (sh := shB s0) (nn := pN s0) y41 hnn y44 hok.2.1.2 y47 y48 l1 z0 i1 p2 (by omega) hi30 (by rw [r2]; exact hS2.2.2.2) rfl (by decide) (fun r σ' h => ?_)
              obtain ⟨h1, h2, h3, h4, h5⟩ := h
              rw [q2 (2 * pN s0) (by omega), q2 0 (by omega), q2 (3 * pN s0) (by omega)] at h1
              rw [q2 (2 * pN s0) (by omega), q2 0 (by omega)] at h5
              have hl : (ndAll θ s0 S l1 z0 i1 p2).length = pN s0 := nodeL_len _ _
              refine ⟨h1, ⟨y, h2, y4, ?_⟩, fun k hk => (h3 k (by omega)).trans (k4 k (by omega))⟩
              rw [y3]
              exact hd.set (fun k hk => (h3 k (by omega)).trans (k4 k (by omega))) (by rw [hl, h4, bt_same (k4 2 (by decide))]) (by rw [hl]; omega) (by rw [hl]; exact h5) (nrw_nodeL _ _)
            · refine v_icmp_ne (tgt := 106) C eX12_slhNode_99 (by decide) (fun _ => ?_) (fun h => absurd h (ix_ne (a := (S 2).length) (b := 4 * (pN s0)) (by rw [bt_same (k3 2 (by decide))]; exact (hd.2 2 (by decide)).1) (ix_mul (a := 4) (b := pN s0) (rfl : (4 : Int32) = nI 4) (hC3.i41.trans (rfl : _ = nI (pN s0)))) (by omega) (by omega) (by omega)))
              rw [if_neg c5]
              refine v_iconst (v := (0 : Int32)) C eX12_slhNode_106 (by decide) ?_
              refine v_iconst (v := (2 : Int32)) C eX12_slhNode_107 (by decide) ?_
              refine n_callV (As := [.int ((0 : Int32)), .int ((2 : Int32))]) (rest := []) C I mX12_130 (rs_good0 I hN hC3 2) (hN 49 (by decide)) hC3.obj rfl (by decide) (by decide) ⟨by decide, by decide⟩ rfl (vi_k (vi_k rfl)) (Nat.le_of_ble_eq_true rfl) eX12_slhNode_108 (fun r σ4 hp => ?_)
              obtain ⟨rfl, hC4, hk4⟩ := hp
              refine v_if_ne (tgt := 116) C eX12_slhNode_111 (by decide) (fun h => absurd (by decide) h) (fun _ => ?_)
              refine v_iconst (v := (0 : Int32)) C eX12_slhNode_114 (by decide) ?_
              exact n_iret C rfl eX12_slhNode_115 ⟨rfl, ⟨upd _ 4 2, hC4, rfl, hd.keep (fun k hk => (hk4 k (by omega)).trans (k3 k (by omega)))⟩, fun k hk => (hk4 k (by omega)).trans (k3 k (by omega))⟩
          · refine v_natT (show (if (0 : Int32) ≤ p4 ∧ p4 ≤ (nI (2 ^ (pP s0 - z0))) - ((1 : Int32)) then (1 : Int32) else 0) = 0 from if_neg c4) ?_
            refine v_if_eq (tgt := 78) C eX12_slhNode_71 (by decide) (fun _ => ?_) (fun h => absurd rfl h)
            rw [if_neg (fun q => c4 q.2.2.2)]
            refine v_iconst (v := (0 : Int32)) C eX12_slhNode_78 (by decide) ?_
            refine v_iconst (v := (1 : Int32)) C eX12_slhNode_79 (by decide) ?_
            refine n_callV (As := [.int ((0 : Int32)), .int ((1 : Int32))]) (rest := []) C I mX12_130 (rs_good0 I hN hC2 1) (hN 49 (by decide)) hC2.obj rfl (by decide) (by decide) ⟨by decide, by decide⟩ rfl (vi_k (vi_k rfl)) (Nat.le_of_ble_eq_true rfl) eX12_slhNode_80 (fun r σ3 hp => ?_)
            obtain ⟨rfl, hC3, hk3⟩ := hp
            refine v_if_eq (tgt := 114) C eX12_slhNode_83 (by decide) (fun _ => ?_) (fun h => absurd rfl h)
            refine v_iconst (v := (0 : Int32)) C eX12_slhNode_114 (by decide) ?_
            exact n_iret C rfl eX12_slhNode_115 ⟨rfl, ⟨upd _ 4 1, hC3, rfl, hd.keep (fun k hk => (hk3 k (by omega)).trans (k2 k (by omega)))⟩, fun k hk => (hk3 k (by omega)).trans (k2 k (by omega))⟩
        · refine v_natT (show (if (0 : Int32) ≤ p3 ∧ p3 ≤ nI (pP s0) then (1 : Int32) else 0) = 0 from if_neg c3) ?_
          refine v_if_eq (tgt := 78) C eX12_slhNode_51 (by decide) (fun _ => ?_) (fun h => absurd rfl h)
          rw [if_neg (fun q => c3 q.2.2.1)]
          refine v_iconst (v := (0 : Int32)) C eX12_slhNode_78 (by decide) ?_
          refine v_iconst (v := (1 : Int32)) C eX12_slhNode_79 (by decide) ?_
          refine n_callV (As := [.int ((0 : Int32)), .int ((1 : Int32))]) (rest := []) C I mX12_130 (rs_good0 I hN hC2 1) (hN 49 (by decide)) hC2.obj rfl (by decide) (by decide) ⟨by decide, by decide⟩ rfl (vi_k (vi_k rfl)) (Nat.le_of_ble_eq_true rfl) eX12_slhNode_80 (fun r σ3 hp => ?_)
          obtain ⟨rfl, hC3, hk3⟩ := hp
          refine v_if_eq (tgt := 114) C eX12_slhNode_83 (by decide) (fun _ => ?_) (fun h => absurd rfl h)
          refine v_iconst (v := (0 : Int32)) C eX12_slhNode_114 (by decide) ?_
          exact n_iret C rfl eX12_slhNode_115 ⟨rfl, ⟨upd _ 4 1, hC3, rfl, hd.keep (fun k hk => (hk3 k (by omega)).trans (k2 k (by omega)))⟩, fun k hk => (hk3 k (by omega)).trans (k2 k (by omega))⟩
    · refine v_natT (show (if (0 : Int32) ≤ p1 ∧ p1 ≤ (nI (pD s0)) - ((1 : Int32)) then (1 : Int32) else 0) = 0 from if_neg c2) ?_
      refine v_if_eq (tgt := 78) C eX12_slhNode_34 (by decide) (fun _ => ?_) (fun h => absurd rfl h)
      rw [if_neg (fun q => c2 q.1)]
      refine v_iconst (v := (0 : Int32)) C eX12_slhNode_78 (by decide) ?_
      refine v_iconst (v := (1 : Int32)) C eX12_slhNode_79 (by decide) ?_
      refine n_callV (As := [.int ((0 : Int32)), .int ((1 : Int32))]) (rest := []) C I mX12_130 (rs_good0 I hN hC2 1) (hN 49 (by decide)) hC2.obj rfl (by decide) (by decide) ⟨by decide, by decide⟩ rfl (vi_k (vi_k rfl)) (Nat.le_of_ble_eq_true rfl) eX12_slhNode_80 (fun r σ3 hp => ?_)
      obtain ⟨rfl, hC3, hk3⟩ := hp
      refine v_if_eq (tgt := 114) C eX12_slhNode_83 (by decide) (fun _ => ?_) (fun h => absurd rfl h)
      refine v_iconst (v := (0 : Int32)) C eX12_slhNode_114 (by decide) ?_
      exact n_iret C rfl eX12_slhNode_115 ⟨rfl, ⟨upd _ 4 1, hC3, rfl, hd.keep (fun k hk => (hk3 k (by omega)).trans (k2 k (by omega)))⟩, fun k hk => (hk3 k (by omega)).trans (k2 k (by omega))⟩
  · rw [show sp_node θ S T p0 p1 p2 p3 p4 = (1, 0, S, T) from if_neg c1]
    refine v_natT (show (if (0 : Int32) ≤ p0 ∧ p0 ≤ (11 : Int32) then (1 : Int32) else 0) = 0 from if_neg c1) ?_
    refine v_iconst (v := (1 : Int32)) C eX12_slhNode_8 (by decide) ?_
    refine n_callV (As := [.int ((0 : Int32)), .int ((1 : Int32))]) (rest := []) C I mX12_130 (rs_good0 I hN hC 1) (hN 49 (by decide)) hC.obj rfl (by decide) (by decide) ⟨by decide, by decide⟩ rfl (vi_k (vi_k rfl)) (Nat.le_of_ble_eq_true rfl) eX12_slhNode_9 (fun r σ1 hp => ?_)
    obtain ⟨rfl, hC1, hk1⟩ := hp
    refine v_if_ne (tgt := 17) C eX12_slhNode_12 (by decide) (fun h => absurd (by decide) h) (fun _ => ?_)
    refine v_iconst (v := (0 : Int32)) C eX12_slhNode_15 (by decide) ?_
    exact n_iret C rfl eX12_slhNode_16 ⟨rfl, ⟨upd _ 4 1, hC1, rfl, hd.keep (fun k hk => hk1 k (by omega))⟩, fun k hk => hk1 k (by omega)⟩

end M34
