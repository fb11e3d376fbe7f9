section M22
variable {G : vG} {B : Nat} {l : Launch} {ad : Nat → Nat} {N : Nat} {θ : tT} {x : Nat → Int32} {σ : nS} {sh : Bool} {nn : Nat} {P H K : List Int32}
theorem rc_mv (I : nI1 ad N) (hN : ∀ k, k < 74 → k < N) (hC : RC G ad θ x sh nn P H K σ) {kx nx ko no : Nat} (hkx : rLn kx = nx) (hx0 : 0 < nx) (hko : rLn ko = no) (ho0 : 0 < no) (hne : kx ≠ ko) (hfr : ko ≠ 28 ∧ ko ≠ 37 ∧ ko ≠ 38) (a b mm : Nat) (ha : a + mm ≤ nx) (hb : b + mm ≤ no) (hnw : nrw (sl (bt σ kx) a mm)) : nOk G B l ad N yX12_move cX12_move 6 none 0 0 0 [.ref (ad kx), .int (nI a), .ref (ad ko), .int (nI b), .int (nI mm)] σ (fun r σ' => r = none ∧ RC G ad θ x sh nn P H K σ' ∧ (∀ k, ¬ (k = ko) → σ' k = σ k) ∧ bt σ' ko = wr (bt σ ko) b (sl (bt σ kx) a mm)) := rc_move I hN hC hkx hx0 hko ho0 hne hfr a b mm ha hb (nrw_map hnw)
def clS (F : fT) (ty px idx : Nat) (A : Nat → List Int32) (j : Nat) (w : List Int32) : List Int32 := F ty px (j + 1) (idx / 2 ^ (j + 1)) (if (idx / 2 ^ j) % 2 = 0 then w ++ A j else A j ++ w)
def clL (F : fT) (ty px idx : Nat) (A : Nat → List Int32) (n : Nat) (w : List Int32) : List Int32 := itN (clS F ty px idx A) n w
theorem sl_two {f : Nat → Int32} {n : Nat} : sl f 0 (2 * n) = sl f 0 n ++ sl f n n := by
  rw [show 2 * n = n + n by omega, sl_app, Nat.zero_add]
set_option maxRecDepth 100000 in
set_option maxHeartbeats 4000000 in
theorem rc_climb (I : nI1 ad N) (hN : ∀ k, k < 74 → k < N) (hC : RC G ad θ x sh nn P H K σ) {kx nx : Nat} (hkx : rLn kx = nx) (hx0 : 0 < nx) (hkf : kx ≠ 28 ∧ kx ≠ 33 ∧ kx ≠ 34) (ty px idx ss a : Nat) (hidx : idx < 2 ^ 31) (hss : ss < 31) (ha : a + ss * nn ≤ nx) (hnx : nrw (sl (bt σ kx) a (ss * nn))) (hw33 : nrw (sl (bt σ 33) 0 nn)) : nOk G B l ad N yX12_climb cX12_climb 9 none 6 0 0 [.ref (ad 49), .int (nI ty), .int (nI px), .int (nI idx), .int (nI ss), .ref (ad kx), .int (nI a)] σ (fun r σ' => r = none ∧ RC G ad θ x sh nn P H K σ' ∧ (∀ k, ¬ (13 ≤ k ∧ k ≤ 17 ∨ k = 49 ∨ k = 28 ∨ k = 33 ∨ k = 34) → σ' k = σ k) ∧ sl (bt σ' 33) 0 nn = clL (fF θ sh nn P H) ty px idx (fun q => sl (bt σ kx) (a + q * nn) nn) ss (sl (bt σ 33) 0 nn) ∧ nrw (sl (bt σ' 33) 0 nn)) := by
  refine vOk.of (by decide +kernel) (Nat.le_of_ble_eq_true rfl) ?_
  intro p e s m args below meth c C
  refine v_eq (lv' := [(0, .ref (ad 49)), (1, .int (nI ty)), (2, .int (nI px)), (3, .int (nI idx)), (4, .int (nI ss)), (5, .ref (ad kx)), (6, .int (nI a))]) rfl rfl rfl ?_
  have hn := hC.qnn
  have hx31 : nx < 2 ^ 31 := hkx ▸ rLn_31 (k := kx) (by omega)
  have hxh := rLn_h (k := kx) (by omega)
  have hx36 : ¬ kx = 36 := fun q => rLn_off (k := kx) (by omega) (by rw [q]; decide)
  refine v_iconst (v := nI 0) C eX12_climb_0 (by decide) ?_
  refine v_istore (lv' := [(0, .ref (ad 49)), (1, .int (nI ty)), (2, .int (nI px)), (3, .int (nI idx)), (4, .int (nI ss)), (5, .ref (ad kx)), (6, .int (nI a)), (7, .int (nI 0))]) C eX12_climb_1 (by decide) [1, 2, 3, 4, 5, 6, 7, 0] rfl ?_
  refine v_forP (fun j τ => RC G ad θ x sh nn P H K τ ∧ (∀ k, ¬ (13 ≤ k ∧ k ≤ 17 ∨ k = 49 ∨ k = 28 ∨ k = 33 ∨ k = 34) → τ k = σ k) ∧ sl (bt τ 33) 0 nn = clL (fF θ sh nn P H) ty px idx (fun q => sl (bt σ kx) (a + q * nn) nn) j (sl (bt σ 33) 0 nn) ∧ nrw (sl (bt τ 33) 0 nn)) (fun j => [(0, .ref (ad 49)), (1, .int (nI ty)), (2, .int (nI px)), (3, .int (nI idx)), (4, .int (nI ss)), (5, .ref (ad kx)), (6, .int (nI a)), (7, .int (nI j))]) ss ?_ ?_ _ ⟨hC, fun k _ => rfl, rfl, hw33⟩
  · intro τ hI
    obtain ⟨hC1, hk1, hv1, hw1⟩ := hI
    refine v_iload C eX12_climb_3 7 rfl ?_
    refine v_iload C eX12_climb_5 4 rfl ?_
    refine v_icmp_ge (tgt := 133) C eX12_climb_7 (by decide) (fun _ => ?_) (fun h => absurd (ix_le (a := ss) (b := ss) (rfl : nI ss = nI ss) (rfl : nI ss = nI ss) (by omega) (by omega) (by omega)) h)
    exact n_vret C rfl eX12_climb_133 ⟨rfl, hC1, hk1, hv1, hw1⟩
  · intro j hj ih τ hI
    obtain ⟨hC1, hk1, hv1, hw1⟩ := hI
    refine v_iload C eX12_climb_3 7 rfl ?_
    refine v_iload C eX12_climb_5 4 rfl ?_
    refine v_icmp_ge (tgt := 133) C eX12_climb_7 (by decide) (fun h => absurd h (ix_nle (a := ss) (b := j) (rfl : nI ss = nI ss) (rfl : nI j = nI j) (by omega) (by omega) (by omega))) (fun _ => ?_)
    have hjn : j * nn + nn ≤ ss * nn := by rw [← Nat.succ_mul]; exact Nat.mul_le_mul_right _ hj
    have hid : idx / 2 ^ j ≤ idx := Nat.div_le_self _ _
    have hid1 : idx / 2 ^ (j + 1) ≤ idx := Nat.div_le_self _ _
    have hbx : bt τ kx = bt σ kx := bt_same (hk1 kx (by omega))
    refine v_iload_n C eX12_climb_10 rfl 3 rfl ?_
    refine v_iload C eX12_climb_11 7 rfl ?_
    refine v_ishr C eX12_climb_13 ?_
    refine v_iconst (v := (2 : Int32)) C eX12_climb_14 (by decide) ?_
    refine v_irem C eX12_climb_15 (by decide) ?_
    by_cases c2 : (idx / 2 ^ j) % 2 = 0
    · refine v_if_ne (tgt := 23) C eX12_climb_16 (by decide) (fun h => absurd (ix_eq (a := (idx / 2 ^ j) % 2) (b := 0) (ix_rem (a := idx / 2 ^ j) (d := 2) (ix_shrV (a := idx) (j := j) (rfl : nI idx = nI idx) (rfl : nI j = nI j) (by omega) (by omega)) (rfl : (2 : Int32) = nI 2) (by omega) (by omega) (by omega)) (rfl : (0 : Int32) = nI 0) (by omega) (by omega) (by omega)) h) (fun _ => ?_)
      refine v_iconst (v := (1 : Int32)) C eX12_climb_19 (by decide) ?_
      refine v_goto (tgt := 24) C eX12_climb_20 (by decide) ?_
      refine v_istore (lv' := [(0, .ref (ad 49)), (1, .int (nI ty)), (2, .int (nI px)), (3, .int (nI idx)), (4, .int (nI ss)), (5, .ref (ad kx)), (6, .int (nI a)), (7, .int (nI j)), (8, .int ((1 : Int32)))]) C eX12_climb_24 (by decide) [1, 2, 3, 4, 5, 6, 7, 8, 0] rfl ?_
      refine v_aload_n C eX12_climb_26 rfl 0 rfl ?_
      refine n_get C I fX12_96_X12 eX12_climb_27 (hN 49 (by decide)) hC1.s.obj rfl ?_
      refine v_iconst (v := (0 : Int32)) C eX12_climb_30 (by decide) ?_
      refine v_aload_n C eX12_climb_31 rfl 0 rfl ?_
      refine n_get C I fX12_99_X12 eX12_climb_32 (hN 49 (by decide)) hC1.s.obj rfl ?_
      refine v_iload C eX12_climb_35 8 rfl ?_
      refine v_if_eq (tgt := 44) C eX12_climb_37 (by decide) (fun h => absurd h (ix_ne (a := 1) (b := 0) (rfl : (1 : Int32) = nI 1) (rfl : (0 : Int32) = nI 0) (by omega) (by omega) (by omega))) (fun _ => ?_)
      refine v_iconst (v := (0 : Int32)) C eX12_climb_40 (by decide) ?_
      refine v_goto (tgt := 48) C eX12_climb_41 (by decide) ?_
      refine v_aload_n C eX12_climb_48 rfl 0 rfl ?_
      refine n_get C I fX12_243_X12 eX12_climb_49 (hN 49 (by decide)) hC1.s.obj rfl ?_
      refine n_callS (av := [.ref (ad 33), .int (nI 0), .ref (ad 34), .int (nI 0), .int (nI nn)]) (rest := []) C mX12_239 (rc_mv I hN hC1 (kx := 33) (nx := 64) (ko := 34) (no := 64) rfl (by decide) rfl (by decide) (by decide) (by decide) 0 0 nn (by omega) (by omega) hw1) rfl (by decide) (by decide) ⟨by decide, by decide⟩ rfl (vi_c hC1.n (vi_c (rfl : (0 : Int32) = nI 0) (vi_k (vi_c (rfl : (0 : Int32) = nI 0) (vi_k rfl))))) (Nat.le_of_ble_eq_true rfl) eX12_climb_52 (fun r σ2 hp => ?_)
      obtain ⟨rfl, hC2, hk2, hv2⟩ := hp
      have hbx2 : bt σ2 kx = bt σ kx := (bt_same (hk2 kx (by omega))).trans hbx
      refine v_aload C eX12_climb_55 5 rfl ?_
      refine v_iload C eX12_climb_57 6 rfl ?_
      refine v_iload C eX12_climb_59 7 rfl ?_
      refine v_aload_n C eX12_climb_61 rfl 0 rfl ?_
      refine n_get C I fX12_243_X12 eX12_climb_62 (hN 49 (by decide)) hC2.s.obj rfl ?_
      refine v_imul C eX12_climb_65 ?_
      refine v_iadd C eX12_climb_66 ?_
      refine v_aload_n C eX12_climb_67 rfl 0 rfl ?_
      refine n_get C I fX12_99_X12 eX12_climb_68 (hN 49 (by decide)) hC2.s.obj rfl ?_
      refine v_iload C eX12_climb_71 8 rfl ?_
      refine v_if_eq (tgt := 83) C eX12_climb_73 (by decide) (fun h => absurd h (ix_ne (a := 1) (b := 0) (rfl : (1 : Int32) = nI 1) (rfl : (0 : Int32) = nI 0) (by omega) (by omega) (by omega))) (fun _ => ?_)
      refine v_aload_n C eX12_climb_76 rfl 0 rfl ?_
      refine n_get C I fX12_243_X12 eX12_climb_77 (hN 49 (by decide)) hC2.s.obj rfl ?_
      refine v_goto (tgt := 84) C eX12_climb_80 (by decide) ?_
      refine v_aload_n C eX12_climb_84 rfl 0 rfl ?_
      refine n_get C I fX12_243_X12 eX12_climb_85 (hN 49 (by decide)) hC2.s.obj rfl ?_
      refine n_callS (av := [.ref (ad kx), .int (nI (a + (j * nn))), .ref (ad 34), .int (nI nn), .int (nI nn)]) (rest := []) C mX12_239 (rc_mv I hN hC2 (ko := 34) (no := 64) hkx hx0 rfl (by decide) (by omega) (by decide) (a + j * nn) nn nn (by omega) (by omega) (by rw [hbx2]; exact nrw_sub hnx (by omega) (by omega))) rfl (by decide) (by decide) ⟨by decide, by decide⟩ rfl (vi_c hC2.n (vi_c hC2.n (vi_k (vi_c (ix_add (a := a) (b := j * nn) (rfl : nI a = nI a) (ix_mul (a := j) (b := nn) (rfl : nI j = nI j) hC2.n)) (vi_k rfl))))) (Nat.le_of_ble_eq_true rfl) eX12_climb_88 (fun r σ3 hp => ?_)
      obtain ⟨rfl, hC3, hk3, hv3⟩ := hp
      refine v_aload_n C eX12_climb_91 rfl 0 rfl ?_
      refine v_iload_n C eX12_climb_92 rfl 1 rfl ?_
      refine v_iload_n C eX12_climb_93 rfl 2 rfl ?_
      refine v_iload C eX12_climb_94 7 rfl ?_
      refine v_iconst (v := (1 : Int32)) C eX12_climb_96 (by decide) ?_
      refine v_iadd C eX12_climb_97 ?_
      refine v_iload_n C eX12_climb_98 rfl 3 rfl ?_
      refine v_iload C eX12_climb_99 7 rfl ?_
      refine v_iconst (v := (1 : Int32)) C eX12_climb_101 (by decide) ?_
      refine v_iadd C eX12_climb_102 ?_
      refine v_ishr C eX12_climb_103 ?_
      refine n_callV (As := [.int (nI ty), .int (nI px), .int (nI (j + 1)), .int (nI (idx / 2 ^ (j + 1)))]) (rest := []) C I mX12_272 (rc_type I hN hC3 ty px (j + 1) (idx / 2 ^ (j + 1))) (hN 49 (by decide)) hC3.s.obj rfl (by decide) (by decide) ⟨by decide, by decide⟩ rfl (vi_c (ix_shrV (a := idx) (j := j + 1) (rfl : nI idx = nI idx) (ix_add (a := j) (b := 1) (rfl : nI j = nI j) (rfl : (1 : Int32) = nI 1)) (by omega) (by omega)) (vi_c (ix_add (a := j) (b := 1) (rfl : nI j = nI j) (rfl : (1 : Int32) = nI 1)) (vi_c (rfl : nI px = nI px) (vi_c (rfl : nI ty = nI ty) rfl)))) (Nat.le_of_ble_eq_true rfl) eX12_climb_104 (fun r σ4 hp => ?_)
      obtain ⟨rfl, hC4, hk4, hY4⟩ := hp
      refine v_aload_n C eX12_climb_107 rfl 0 rfl ?_
      refine v_aload_n C eX12_climb_108 rfl 0 rfl ?_
      refine n_get C I fX12_99_X12 eX12_climb_109 (hN 49 (by decide)) hC4.s.obj rfl ?_
      refine v_iconst (v := (0 : Int32)) C eX12_climb_112 (by decide) ?_
      refine v_iconst (v := (2 : Int32)) C eX12_climb_113 (by decide) ?_
      refine v_aload_n C eX12_climb_114 rfl 0 rfl ?_
      refine n_get C I fX12_243_X12 eX12_climb_115 (hN 49 (by decide)) hC4.s.obj rfl ?_
      refine v_imul C eX12_climb_118 ?_
      refine v_aload_n C eX12_climb_119 rfl 0 rfl ?_
      refine n_get C I fX12_96_X12 eX12_climb_120 (hN 49 (by decide)) hC4.s.obj rfl ?_
      refine v_iconst (v := (0 : Int32)) C eX12_climb_123 (by decide) ?_
      refine n_callV (As := [.ref (ad 34), .int (nI 0), .int (nI (2 * nn)), .ref (ad 33), .int (nI 0)]) (rest := []) C I mX12_268 (rc_hashed I hN hC4 hY4 (kx := 34) (nx := 64) (ko := 33) (no := 64) rfl (by decide) rfl (by decide) (by decide) 0 (2 * nn) 0 (by omega) (by omega)) (hN 49 (by decide)) hC4.s.obj rfl (by decide) (by decide) ⟨by decide, by decide⟩ rfl (vi_c (rfl : (0 : Int32) = nI 0) (vi_k (vi_c (ix_mul (a := 2) (b := nn) (rfl : (2 : Int32) = nI 2) hC4.n) (vi_c (rfl : (0 : Int32) = nI 0) (vi_k rfl))))) (Nat.le_of_ble_eq_true rfl) eX12_climb_124 (fun r σ5 hp => ?_)
      obtain ⟨rfl, hC5, hk5, hv5⟩ := hp
      refine v_iinc (lv' := [(0, .ref (ad 49)), (1, .int (nI ty)), (2, .int (nI px)), (3, .int (nI idx)), (4, .int (nI ss)), (5, .ref (ad kx)), (6, .int (nI a)), (7, .int (nI (j + 1))), (8, .int ((1 : Int32)))]) C eX12_climb_127 7 rfl (ix_inc _) (by decide) [1, 2, 3, 4, 5, 6, 7, 0, 8] rfl ?_
      refine v_goto (tgt := 3) C eX12_climb_130 (by decide) ?_
      refine v_pick (lv' := [(0, .ref (ad 49)), (1, .int (nI ty)), (2, .int (nI px)), (3, .int (nI idx)), (4, .int (nI ss)), (5, .ref (ad kx)), (6, .int (nI a)), (7, .int (nI (j + 1)))]) [0, 1, 2, 3, 4, 5, 6, 7] rfl ?_
      have h33 : sl (bt σ5 33) 0 nn = fF θ sh nn P H ty px (j + 1) (idx / 2 ^ (j + 1)) (sl (bt σ4 34) 0 (2 * nn)) := by rw [hv5, sl_wr' (fF_len _ _ _ _ _)]
      refine ih σ5 ⟨hC5, fun k hk => (hk5 k (by omega)).trans ((hk4 k (by omega)).trans ((hk3 k (by omega)).trans ((hk2 k (by omega)).trans (hk1 k hk)))), ?_, by rw [h33]; exact nrw_fF _ _ _ _ _⟩
      rw [h33, show clL (fF θ sh nn P H) ty px idx (fun q => sl (bt σ kx) (a + q * nn) nn) (j + 1) (sl (bt σ 33) 0 nn) = clS (fF θ sh nn P H) ty px idx (fun q => sl (bt σ kx) (a + q * nn) nn) j (clL (fF θ sh nn P H) ty px idx (fun q => sl (bt σ kx) (a + q * nn) nn) j (sl (bt σ 33) 0 nn)) from rfl, ← hv1]
      rw [bt_same (hk4 34 (by decide)), hv3, hv2, sl_two, sl_wr_out (by omega), sl_wr' sl_len, sl_wr' sl_len, hbx2]; unfold clS; rw [if_pos c2]
    · refine v_if_ne (tgt := 23) C eX12_climb_16 (by decide) (fun _ => ?_) (fun h => absurd h (ix_ne (a := (idx / 2 ^ j) % 2) (b := 0) (ix_rem (a := idx / 2 ^ j) (d := 2) (ix_shrV (a := idx) (j := j) (rfl : nI idx = nI idx) (rfl : nI j = nI j) (by omega) (by omega)) (rfl : (2 : Int32) = nI 2) (by omega) (by omega) (by omega)) (rfl : (0 : Int32) = nI 0) (by omega) (by omega) (by omega)))
      refine v_iconst (v := (0 : Int32)) C eX12_climb_23 (by decide) ?_
      refine v_istore (lv' := [(0, .ref (ad 49)), (1, .int (nI ty)), (2, .int (nI px)), (3, .int (nI idx)), (4, .int (nI ss)), (5, .ref (ad kx)), (6, .int (nI a)), (7, .int (nI j)), (8, .int ((0 : Int32)))]) C eX12_climb_24 (by decide) [1, 2, 3, 4, 5, 6, 7, 8, 0] rfl ?_
      refine v_aload_n C eX12_climb_26 rfl 0 rfl ?_
      refine n_get C I fX12_96_X12 eX12_climb_27 (hN 49 (by decide)) hC1.s.obj rfl ?_
      refine v_iconst (v := (0 : Int32)) C eX12_climb_30 (by decide) ?_
      refine v_aload_n C eX12_climb_31 rfl 0 rfl ?_
      refine n_get C I fX12_99_X12 eX12_climb_32 (hN 49 (by decide)) hC1.s.obj rfl ?_
      refine v_iload C eX12_climb_35 8 rfl ?_
      refine v_if_eq (tgt := 44) C eX12_climb_37 (by decide) (fun _ => ?_) (fun h => absurd (ix_eq (a := 0) (b := 0) (rfl : (0 : Int32) = nI 0) (rfl : (0 : Int32) = nI 0) (by omega) (by omega) (by omega)) h)
      refine v_aload_n C eX12_climb_44 rfl 0 rfl ?_
      refine n_get C I fX12_243_X12 eX12_climb_45 (hN 49 (by decide)) hC1.s.obj rfl ?_
      refine v_aload_n C eX12_climb_48 rfl 0 rfl ?_
      refine n_get C I fX12_243_X12 eX12_climb_49 (hN 49 (by decide)) hC1.s.obj rfl ?_
      refine n_callS (av := [.ref (ad 33), .int (nI 0), .ref (ad 34), .int (nI nn), .int (nI nn)]) (rest := []) C mX12_239 (rc_mv I hN hC1 (kx := 33) (nx := 64) (ko := 34) (no := 64) rfl (by decide) rfl (by decide) (by decide) (by decide) 0 nn nn (by omega) (by omega) hw1) rfl (by decide) (by decide) ⟨by decide, by decide⟩ rfl (vi_c hC1.n (vi_c hC1.n (vi_k (vi_c (rfl : (0 : Int32) = nI 0) (vi_k rfl))))) (Nat.le_of_ble_eq_true rfl) eX12_climb_52 (fun r σ2 hp => ?_)
      obtain ⟨rfl, hC2, hk2, hv2⟩ := hp
      have hbx2 : bt σ2 kx = bt σ kx := (bt_same (hk2 kx (by omega))).trans hbx
      refine v_aload C eX12_climb_55 5 rfl ?_
      refine v_iload C eX12_climb_57 6 rfl ?_
      refine v_iload C eX12_climb_59 7 rfl ?_
      refine v_aload_n C eX12_climb_61 rfl 0 rfl ?_
      refine n_get C I fX12_243_X12 eX12_climb_62 (hN 49 (by decide)) hC2.s.obj rfl ?_
      refine v_imul C eX12_climb_65 ?_
      refine v_iadd C eX12_climb_66 ?_
      refine v_aload_n C eX12_climb_67 rfl 0 rfl ?_
      refine n_get C I fX12_99_X12 eX12_climb_68 (hN 49 (by decide)) hC2.s.obj rfl ?_
      refine v_iload C eX12_climb_71 8 rfl ?_
      refine v_if_eq (tgt := 83) C eX12_climb_73 (by decide) (fun _ => ?_) (fun h => absurd (ix_eq (a := 0) (b := 0) (rfl : (0 : Int32) = nI 0) (rfl : (0 : Int32) = nI 0) (by omega) (by omega) (by omega)) h)
      refine v_iconst (v := (0 : Int32)) C eX12_climb_83 (by decide) ?_
      refine v_aload_n C eX12_climb_84 rfl 0 rfl ?_
      refine n_get C I fX12_243_X12 eX12_climb_85 (hN 49 (by decide)) hC2.s.obj rfl ?_
      refine n_callS (av := [.ref (ad kx), .int (nI (a + (j * nn))), .ref (ad 34), .int (nI 0), .int (nI nn)]) (rest := []) C mX12_239 (rc_mv I hN hC2 (ko := 34) (no := 64) hkx hx0 rfl (by decide) (by omega) (by decide) (a + j * nn) 0 nn (by omega) (by omega) (by rw [hbx2]; exact nrw_sub hnx (by omega) (by omega))) rfl (by decide) (by decide) ⟨by decide, by decide⟩ rfl (vi_c hC2.n (vi_c (rfl : (0 : Int32) = nI 0) (vi_k (vi_c (ix_add (a := a) (b := j * nn) (rfl : nI a = nI a) (ix_mul (a := j) (b := nn) (rfl : nI j = nI j) hC2.n)) (vi_k rfl))))) (Nat.le_of_ble_eq_true rfl) eX12_climb_88 (fun r σ3 hp => ?_)
      obtain ⟨rfl, hC3, hk3, hv3⟩ := hp
      refine v_aload_n C eX12_climb_91 rfl 0 rfl ?_
      refine v_iload_n C eX12_climb_92 rfl 1 rfl ?_
      refine v_iload_n C eX12_climb_93 rfl 2 rfl ?_
      refine v_iload C eX12_climb_94 7 rfl ?_
      refine v_iconst (v := (1 : Int32)) C eX12_climb_96 (by decide) ?_
      refine v_iadd C eX12_climb_97 ?_
      refine v_iload_n C eX12_climb_98 rfl 3 rfl ?_
      refine v_iload C eX12_climb_99 7 rfl ?_
      refine v_iconst (v := (1 : Int32)) C eX12_climb_101 (by decide) ?_
      refine v_iadd C eX12_climb_102 ?_
      refine v_ishr C eX12_climb_103 ?_
      refine n_callV (As := [.int (nI ty), .int (nI px), .int (nI (j + 1)), .int (nI (idx / 2 ^ (j + 1)))]) (rest := []) C I mX12_272 (rc_type I hN hC3 ty px (j + 1) (idx / 2 ^ (j + 1))) (hN 49 (by decide)) hC3.s.obj rfl (by decide) (by decide) ⟨by decide, by decide⟩ rfl (vi_c (ix_shrV (a := idx) (j := j + 1) (rfl : nI idx = nI idx) (ix_add (a := j) (b := 1) (rfl : nI j = nI j) (rfl : (1 : Int32) = nI 1)) (by omega) (by omega)) (vi_c (ix_add (a := j) (b := 1) (rfl : nI j = nI j) (rfl : (1 : Int32) = nI 1)) (vi_c (rfl : nI px = nI px) (vi_c (rfl : nI ty = nI ty) rfl)))) (Nat.le_of_ble_eq_true rfl) eX12_climb_104 (fun r σ4 hp => ?_)
      obtain ⟨rfl, hC4, hk4, hY4⟩ := hp
      refine v_aload_n C eX12_climb_107 rfl 0 rfl ?_
      refine v_aload_n C eX12_climb_108 rfl 0 rfl ?_
      refine n_get C I fX12_99_X12 eX12_climb_109 (hN 49 (by decide)) hC4.s.obj rfl ?_
      refine v_iconst (v := (0 : Int32)) C eX12_climb_112 (by decide) ?_
      refine v_iconst (v := (2 : Int32)) C eX12_climb_113 (by decide) ?_
      refine v_aload_n C eX12_climb_114 rfl 0 rfl ?_
      refine n_get C I fX12_243_X12 eX12_climb_115 (hN 49 (by decide)) hC4.s.obj rfl ?_
      refine v_imul C eX12_climb_118 ?_
      refine v_aload_n C eX12_climb_119 rfl 0 rfl ?_
      refine n_get C I fX12_96_X12 eX12_climb_120 (hN 49 (by decide)) hC4.s.obj rfl ?_
      refine v_iconst (v := (0 : Int32)) C eX12_climb_123 (by decide) ?_
      refine n_callV (As := [.ref (ad 34), .int (nI 0), .int (nI (2 * nn)), .ref (ad 33), .int (nI 0)]) (rest := []) C I mX12_268 (rc_hashed I hN hC4 hY4 (kx := 34) (nx := 64) (ko := 33) (no := 64) rfl (by decide) rfl (by decide) (by decide) 0 (2 * nn) 0 (by omega) (by omega)) (hN 49 (by decide)) hC4.s.obj rfl (by decide) (by decide) ⟨by decide, by decide⟩ rfl (vi_c (rfl : (0 : Int32) = nI 0) (vi_k (vi_c (ix_mul (a := 2) (b := nn) (rfl : (2 : Int32) = nI 2) hC4.n) (vi_c (rfl : (0 : Int32) = nI 0) (vi_k rfl))))) (Nat.le_of_ble_eq_true rfl) eX12_climb_124 (fun r σ5 hp => ?_)
      obtain ⟨rfl, hC5, hk5, hv5⟩ := hp
      refine v_iinc (lv' := [(0, .ref (ad 49)), (1, .int (nI ty)), (2, .int (nI px)), (3, .int (nI idx)), (4, .int (nI ss)), (5, .ref (ad kx)), (6, .int (nI a)), (7, .int (nI (j + 1))), (8, .int ((0 : Int32)))]) C eX12_climb_127 7 rfl (ix_inc _) (by decide) [1, 2, 3, 4, 5, 6, 7, 0, 8] rfl ?_
      refine v_goto (tgt := 3) C eX12_climb_130 (by decide) ?_
      refine v_pick (lv' := [(0, .ref (ad 49)), (1, .int (nI ty)), (2, .int (nI px)), (3, .int (nI idx)), (4, .int (nI ss)), (5, .ref (ad kx)), (6, .int (nI a)), (7, .int (nI (j + 1)))]) [0, 1, 2, 3, 4, 5, 6, 7] rfl ?_
      have h33 : sl (bt σ5 33) 0 nn = fF θ sh nn P H ty px (j + 1) (idx / 2 ^ (j + 1)) (sl (bt σ4 34) 0 (2 * nn)) := by rw [hv5, sl_wr' (fF_len _ _ _ _ _)]
      refine ih σ5 ⟨hC5, fun k hk => (hk5 k (by omega)).trans ((hk4 k (by omega)).trans ((hk3 k (by omega)).trans ((hk2 k (by omega)).trans (hk1 k hk)))), ?_, by rw [h33]; exact nrw_fF _ _ _ _ _⟩
      rw [h33, show clL (fF θ sh nn P H) ty px idx (fun q => sl (bt σ kx) (a + q * nn) nn) (j + 1) (sl (bt σ 33) 0 nn) = clS (fF θ sh nn P H) ty px idx (fun q => sl (bt σ kx) (a + q * nn) nn) j (clL (fF θ sh nn P H) ty px idx (fun q => sl (bt σ kx) (a + q * nn) nn) j (sl (bt σ 33) 0 nn)) from rfl, ← hv1]
      rw [bt_same (hk4 34 (by decide)), hv3, hv2, sl_two, sl_wr' sl_len, sl_wr_out (by rw [sl_len]; omega), sl_wr' sl_len, hbx2]; unfold clS; rw [if_neg c2]

/-- the root that a signature of a tree leads to -/
def rtC (F : fT) (D : Nat → Nat) (A : Nat → List Int32) (i j : Nat) : List Int32 := chL F i j (D j) (15 - D j) (A j)
def rtL (F : fT) (c hh : Nat) (D : Nat → Nat) (A : Nat → List Int32) (i : Nat) : List Int32 := clL F 2 0 i (fun q => A (c + q)) hh (F 1 i 0 0 (cat (rtC F D A i) c))
theorem rtC_len {D : Nat → Nat} {A : Nat → List Int32} (hA : ∀ j, (A j).length = nn) {i : Nat} (j : Nat) : (rtC (fF θ sh nn P H) D A i j).length = nn := chL_len (hA j) _
set_option maxRecDepth 100000 in
set_option maxHeartbeats 4000000 in
theorem rc_rootOf (I : nI1 ad N) (hN : ∀ k, k < 74 → k < N) (hC : RC G ad θ x sh nn P H K σ) (h47 : x 47 = nI (2 * nn + 3)) {hh : Nat} (h44 : x 44 = nI hh) (hh9 : hh ≤ 9) {kx nx : Nat} (hkx : rLn kx = nx) (hx0 : 0 < nx) {ky ny : Nat} (hky : rLn ky = ny) (hy0 : 0 < ny) (hkf : kx ≠ 28 ∧ kx ≠ 30 ∧ kx ≠ 33 ∧ kx ≠ 34) (i a cc : Nat) (hi : i < 2 ^ hh) (ha : a + (2 * nn + 3 + hh) * nn ≤ nx) (hc : cc + nn ≤ ny) (hnx : nrw (sl (bt σ kx) a ((2 * nn + 3 + hh) * nn))) : nOk G B l ad N yX12_rootOf cX12_rootOf 7 none 8 0 0 [.ref (ad 49), .int (nI i), .ref (ad kx), .int (nI a), .ref (ad ky), .int (nI cc)] σ (fun r σ' => r = none ∧ RC G ad θ x sh nn P H K σ' ∧ (∀ k, ¬ (13 ≤ k ∧ k ≤ 17 ∨ k = 49 ∨ k = 28 ∨ k = 30 ∨ k = 33 ∨ k = 34 ∨ k = 36) → σ' k = σ k) ∧ sl (bt σ' 33) 0 nn = rtL (fF θ sh nn P H) (2 * nn + 3) hh (digL nn (sl (bt σ ky) cc nn)) (fun q => sl (bt σ kx) (a + q * nn) nn) i ∧ nrw (sl (bt σ' 33) 0 nn)) := by
  refine vOk.of (by decide +kernel) (Nat.le_of_ble_eq_true rfl) ?_
  intro p e s m args below meth c C
  refine v_eq (lv' := [(0, .ref (ad 49)), (1, .int (nI i)), (2, .ref (ad kx)), (3, .int (nI a)), (4, .ref (ad ky)), (5, .int (nI cc))]) rfl rfl rfl ?_
  have hn := hC.qnn
  have hx31 : nx < 2 ^ 31 := hkx ▸ rLn_31 (k := kx) (by omega)
  have hxh := rLn_h (k := kx) (by omega)
  have hx36 : ¬ kx = 36 := fun q => rLn_off (k := kx) (by omega) (by rw [q]; decide)
  have hi2 : i < 2 ^ 31 := Nat.lt_trans hi (Nat.lt_of_le_of_lt (Nat.pow_le_pow_right (by decide) hh9) (by decide))
  have hmul : (2 * nn + 3 + hh) * nn = (2 * nn + 3) * nn + hh * nn := Nat.add_mul _ _ _
  have hcn : (2 * nn + 3) * nn ≤ 2144 := by rcases hn with h | h | h <;> subst h <;> decide
  have hhn : hh * nn ≤ 9 * 32 := Nat.mul_le_mul hh9 (by omega)
  refine v_aload_n C eX12_rootOf_0 rfl 0 rfl ?_
  refine v_aload C eX12_rootOf_1 4 rfl ?_
  refine v_iload C eX12_rootOf_3 5 rfl ?_
  refine n_callV (As := [.ref (ad ky), .int (nI cc)]) (rest := []) C I mX12_292 (rc_digitsOf I hN hC hky hy0 cc hc) (hN 49 (by decide)) hC.s.obj rfl (by decide) (by decide) ⟨by decide, by decide⟩ rfl (vi_c (rfl : nI cc = nI cc) (vi_k rfl)) (Nat.le_of_ble_eq_true rfl) eX12_rootOf_5 (fun r σ0 hp => ?_)
  obtain ⟨rfl, hC0, hk0, hv0⟩ := hp
  refine v_iconst (v := nI 0) C eX12_rootOf_8 (by decide) ?_
  refine v_istore (lv' := [(0, .ref (ad 49)), (1, .int (nI i)), (2, .ref (ad kx)), (3, .int (nI a)), (4, .ref (ad ky)), (5, .int (nI cc)), (6, .int (nI 0))]) C eX12_rootOf_9 (by decide) [1, 2, 3, 4, 5, 6, 0] rfl ?_
  refine v_forP (fun j τ => RC G ad θ x sh nn P H K τ ∧ (∀ k, ¬ (13 ≤ k ∧ k ≤ 17 ∨ k = 49 ∨ k = 28 ∨ k = 30) → τ k = σ0 k) ∧ bt τ 30 = wr (bt σ 30) 0 (cat (rtC (fF θ sh nn P H) (digL nn (sl (bt σ ky) cc nn)) (fun q => sl (bt σ kx) (a + q * nn) nn) i) j)) (fun j => [(0, .ref (ad 49)), (1, .int (nI i)), (2, .ref (ad kx)), (3, .int (nI a)), (4, .ref (ad ky)), (5, .int (nI cc)), (6, .int (nI j))]) (2 * nn + 3) ?_ ?_ _ ⟨hC0, fun k _ => rfl, (bt_same (hk0 30 (by decide))).trans wr_nil.symm⟩
  · intro τ hI
    obtain ⟨hC1, hk1, hv1⟩ := hI
    refine v_iload C eX12_rootOf_11 6 rfl ?_
    refine v_aload_n C eX12_rootOf_13 rfl 0 rfl ?_
    refine n_get C I fX12_261_X12 eX12_rootOf_14 (hN 49 (by decide)) hC1.s.obj rfl ?_
    refine v_icmp_ge (tgt := 89) C eX12_rootOf_17 (by decide) (fun _ => ?_) (fun h => absurd (ix_le (a := 2 * nn + 3) (b := 2 * nn + 3) (hC1.s.i47.trans h47) (rfl : nI (2 * nn + 3) = nI (2 * nn + 3)) (by omega) (by omega) (by omega)) h)
    refine v_aload_n C eX12_rootOf_89 rfl 0 rfl ?_
    refine v_iconst (v := (1 : Int32)) C eX12_rootOf_90 (by decide) ?_
    refine v_iload_n C eX12_rootOf_91 rfl 1 rfl ?_
    refine v_iconst (v := (0 : Int32)) C eX12_rootOf_92 (by decide) ?_
    refine v_iconst (v := (0 : Int32)) C eX12_rootOf_93 (by decide) ?_
    refine n_callV (As := [.int (nI 1), .int (nI i), .int (nI 0), .int (nI 0)]) (rest := []) C I mX12_272 (rc_type I hN hC1 1 i 0 0) (hN 49 (by decide)) hC1.s.obj rfl (by decide) (by decide) ⟨by decide, by decide⟩ rfl (vi_c (rfl : (0 : Int32) = nI 0) (vi_c (rfl : (0 : Int32) = nI 0) (vi_c (rfl : nI i = nI i) (vi_c (rfl : (1 : Int32) = nI 1) rfl)))) (Nat.le_of_ble_eq_true rfl) eX12_rootOf_94 (fun r σ2 hp => ?_)
    obtain ⟨rfl, hC2, hk2, hY2⟩ := hp
    refine v_aload_n C eX12_rootOf_97 rfl 0 rfl ?_
    refine v_aload_n C eX12_rootOf_98 rfl 0 rfl ?_
    refine n_get C I fX12_87_X12 eX12_rootOf_99 (hN 49 (by decide)) hC2.s.obj rfl ?_
    refine v_iconst (v := (0 : Int32)) C eX12_rootOf_102 (by decide) ?_
    refine v_aload_n C eX12_rootOf_103 rfl 0 rfl ?_
    refine n_get C I fX12_261_X12 eX12_rootOf_104 (hN 49 (by decide)) hC2.s.obj rfl ?_
    refine v_aload_n C eX12_rootOf_107 rfl 0 rfl ?_
    refine n_get C I fX12_243_X12 eX12_rootOf_108 (hN 49 (by decide)) hC2.s.obj rfl ?_
    refine v_imul C eX12_rootOf_111 ?_
    refine v_aload_n C eX12_rootOf_112 rfl 0 rfl ?_
    refine n_get C I fX12_96_X12 eX12_rootOf_113 (hN 49 (by decide)) hC2.s.obj rfl ?_
    refine v_iconst (v := (0 : Int32)) C eX12_rootOf_116 (by decide) ?_
    refine n_callV (As := [.ref (ad 30), .int (nI 0), .int (nI ((2 * nn + 3) * nn)), .ref (ad 33), .int (nI 0)]) (rest := []) C I mX12_268 (rc_hashed I hN hC2 hY2 (kx := 30) (nx := 2144) (ko := 33) (no := 64) rfl (by decide) rfl (by decide) (by decide) 0 ((2 * nn + 3) * nn) 0 (by omega) (by omega)) (hN 49 (by decide)) hC2.s.obj rfl (by decide) (by decide) ⟨by decide, by decide⟩ rfl (vi_c (rfl : (0 : Int32) = nI 0) (vi_k (vi_c (ix_mul (a := 2 * nn + 3) (b := nn) (hC2.s.i47.trans h47) hC2.n) (vi_c (rfl : (0 : Int32) = nI 0) (vi_k rfl))))) (Nat.le_of_ble_eq_true rfl) eX12_rootOf_117 (fun r σ3 hp => ?_)
    obtain ⟨rfl, hC3, hk3, hv3⟩ := hp
    have hbx : bt σ3 kx = bt σ kx := (bt_same (hk3 kx (by omega))).trans ((bt_same (hk2 kx (by omega))).trans ((bt_same (hk1 kx (by omega))).trans (bt_same (hk0 kx hx36))))
    have h33 : sl (bt σ3 33) 0 nn = fF θ sh nn P H 1 i 0 0 (cat (rtC (fF θ sh nn P H) (digL nn (sl (bt σ ky) cc nn)) (fun q => sl (bt σ kx) (a + q * nn) nn) i) (2 * nn + 3)) := by rw [hv3, sl_wr' (fF_len _ _ _ _ _), bt_same (hk2 30 (by decide)), hv1, sl_wr' (cat_len (rtC_len (fun _ => sl_len)) _)]
    refine v_aload_n C eX12_rootOf_120 rfl 0 rfl ?_
    refine v_iconst (v := (2 : Int32)) C eX12_rootOf_121 (by decide) ?_
    refine v_iconst (v := (0 : Int32)) C eX12_rootOf_122 (by decide) ?_
    refine v_iload_n C eX12_rootOf_123 rfl 1 rfl ?_
    refine v_aload_n C eX12_rootOf_124 rfl 0 rfl ?_
    refine n_get C I fX12_258_X12 eX12_rootOf_125 (hN 49 (by decide)) hC3.s.obj rfl ?_
    refine v_aload_n C eX12_rootOf_128 rfl 2 rfl ?_
    refine v_iload_n C eX12_rootOf_129 rfl 3 rfl ?_
    refine v_aload_n C eX12_rootOf_130 rfl 0 rfl ?_
    refine n_get C I fX12_261_X12 eX12_rootOf_131 (hN 49 (by decide)) hC3.s.obj rfl ?_
    refine v_aload_n C eX12_rootOf_134 rfl 0 rfl ?_
    refine n_get C I fX12_243_X12 eX12_rootOf_135 (hN 49 (by decide)) hC3.s.obj rfl ?_
    refine v_imul C eX12_rootOf_138 ?_
    refine v_iadd C eX12_rootOf_139 ?_
    refine n_callV (As := [.int (nI 2), .int (nI 0), .int (nI i), .int (nI hh), .ref (ad kx), .int (nI (a + ((2 * nn + 3) * nn)))]) (rest := []) C I mX12_295 (rc_climb I hN hC3 hkx hx0 (by omega) 2 0 i hh (a + (2 * nn + 3) * nn) hi2 (by omega) (by omega) (by rw [hbx]; exact nrw_sub hnx (by omega) (by omega)) (by rw [h33]; exact nrw_fF _ _ _ _ _)) (hN 49 (by decide)) hC3.s.obj rfl (by decide) (by decide) ⟨by decide, by decide⟩ rfl (vi_c (ix_add (a := a) (b := (2 * nn + 3) * nn) (rfl : nI a = nI a) (ix_mul (a := 2 * nn + 3) (b := nn) (hC3.s.i47.trans h47) hC3.n)) (vi_k (vi_c (hC3.s.i44.trans h44) (vi_c (rfl : nI i = nI i) (vi_c (rfl : (0 : Int32) = nI 0) (vi_c (rfl : (2 : Int32) = nI 2) rfl)))))) (Nat.le_of_ble_eq_true rfl) eX12_rootOf_140 (fun r σ4 hp => ?_)
    obtain ⟨rfl, hC4, hk4, hv4, hw4⟩ := hp
    refine n_vret C rfl eX12_rootOf_143 ⟨rfl, hC4, fun k hk => (hk4 k (by omega)).trans ((hk3 k (by omega)).trans ((hk2 k (by omega)).trans ((hk1 k (by omega)).trans (hk0 k (by omega))))), ?_, hw4⟩
    rw [hv4, h33, hbx]; unfold rtL
    have e : (fun q => sl (bt σ kx) (a + (2 * nn + 3) * nn + q * nn) nn) = (fun q => sl (bt σ kx) (a + (2 * nn + 3 + q) * nn) nn) := by funext q; rw [Nat.add_mul (2 * nn + 3) q nn, Nat.add_assoc]
    rw [e]
  · intro j hj ih τ hI
    obtain ⟨hC1, hk1, hv1⟩ := hI
    refine v_iload C eX12_rootOf_11 6 rfl ?_
    refine v_aload_n C eX12_rootOf_13 rfl 0 rfl ?_
    refine n_get C I fX12_261_X12 eX12_rootOf_14 (hN 49 (by decide)) hC1.s.obj rfl ?_
    refine v_icmp_ge (tgt := 89) C eX12_rootOf_17 (by decide) (fun h => absurd h (ix_nle (a := 2 * nn + 3) (b := j) (hC1.s.i47.trans h47) (rfl : nI j = nI j) (by omega) (by omega) (by omega))) (fun _ => ?_)
    have hjn : j * nn + nn ≤ (2 * nn + 3) * nn := by rw [← Nat.succ_mul]; exact Nat.mul_le_mul_right _ hj
    have hdj := digL_15 nn (sl (bt σ ky) cc nn) j
    have h36 : bt τ 36 j = nI (digL nn (sl (bt σ ky) cc nn) j) := by rw [bt_same (hk1 36 (by omega))]; exact hv0 j (by omega)
    have hbx : bt τ kx = bt σ kx := (bt_same (hk1 kx (by omega))).trans (bt_same (hk0 kx hx36))
    refine v_aload_n C eX12_rootOf_20 rfl 2 rfl ?_
    refine v_iload_n C eX12_rootOf_21 rfl 3 rfl ?_
    refine v_iload C eX12_rootOf_22 6 rfl ?_
    refine v_aload_n C eX12_rootOf_24 rfl 0 rfl ?_
    refine n_get C I fX12_243_X12 eX12_rootOf_25 (hN 49 (by decide)) hC1.s.obj rfl ?_
    refine v_imul C eX12_rootOf_28 ?_
    refine v_iadd C eX12_rootOf_29 ?_
    refine v_aload_n C eX12_rootOf_30 rfl 0 rfl ?_
    refine n_get C I fX12_87_X12 eX12_rootOf_31 (hN 49 (by decide)) hC1.s.obj rfl ?_
    refine v_iload C eX12_rootOf_34 6 rfl ?_
    refine v_aload_n C eX12_rootOf_36 rfl 0 rfl ?_
    refine n_get C I fX12_243_X12 eX12_rootOf_37 (hN 49 (by decide)) hC1.s.obj rfl ?_
    refine v_imul C eX12_rootOf_40 ?_
    refine v_aload_n C eX12_rootOf_41 rfl 0 rfl ?_
    refine n_get C I fX12_243_X12 eX12_rootOf_42 (hN 49 (by decide)) hC1.s.obj rfl ?_
    refine n_callS (av := [.ref (ad kx), .int (nI (a + (j * nn))), .ref (ad 30), .int (nI (j * nn)), .int (nI nn)]) (rest := []) C mX12_239 (rc_mv I hN hC1 (ko := 30) (no := 2144) hkx hx0 rfl (by decide) (by omega) (by decide) (a + j * nn) (j * nn) nn (by omega) (by omega) (by rw [hbx]; exact nrw_sub hnx (by omega) (by omega))) rfl (by decide) (by decide) ⟨by decide, by decide⟩ rfl (vi_c hC1.n (vi_c (ix_mul (a := j) (b := nn) (rfl : nI j = nI j) hC1.n) (vi_k (vi_c (ix_add (a := a) (b := j * nn) (rfl : nI a = nI a) (ix_mul (a := j) (b := nn) (rfl : nI j = nI j) hC1.n)) (vi_k rfl))))) (Nat.le_of_ble_eq_true rfl) eX12_rootOf_45 (fun r σ2 hp => ?_)
    obtain ⟨rfl, hC2, hk2, hv2⟩ := hp
    refine v_aload_n C eX12_rootOf_48 rfl 0 rfl ?_
    refine v_iload_n C eX12_rootOf_49 rfl 1 rfl ?_
    refine v_iload C eX12_rootOf_50 6 rfl ?_
    refine v_aload_n C eX12_rootOf_52 rfl 0 rfl ?_
    refine n_get C I fX12_105_X12 eX12_rootOf_53 (hN 49 (by decide)) hC2.s.obj rfl ?_
    refine v_iload C eX12_rootOf_56 6 rfl ?_
    refine n_iald C I eX12_rootOf_58 (hN 36 (by decide)) hC2.s.dig j (rfl : nI j = nI j) (by omega) (by decide) ?_
    refine v_bipush (v := (15 : Int32)) C eX12_rootOf_59 (by decide) ?_
    refine v_aload_n C eX12_rootOf_61 rfl 0 rfl ?_
    refine n_get C I fX12_105_X12 eX12_rootOf_62 (hN 49 (by decide)) hC2.s.obj rfl ?_
    refine v_iload C eX12_rootOf_65 6 rfl ?_
    refine n_iald C I eX12_rootOf_67 (hN 36 (by decide)) hC2.s.dig j (rfl : nI j = nI j) (by omega) (by decide) ?_
    refine v_isub C eX12_rootOf_68 ?_
    refine v_aload_n C eX12_rootOf_69 rfl 0 rfl ?_
    refine n_get C I fX12_87_X12 eX12_rootOf_70 (hN 49 (by decide)) hC2.s.obj rfl ?_
    refine v_iload C eX12_rootOf_73 6 rfl ?_
    refine v_aload_n C eX12_rootOf_75 rfl 0 rfl ?_
    refine n_get C I fX12_243_X12 eX12_rootOf_76 (hN 49 (by decide)) hC2.s.obj rfl ?_
    refine v_imul C eX12_rootOf_79 ?_
    refine n_callV (As := [.int (nI i), .int (nI j), .int (nI ((digL nn (sl (bt σ ky) cc nn) j))), .int (nI (15 - ((digL nn (sl (bt σ ky) cc nn) j)))), .ref (ad 30), .int (nI (j * nn))]) (rest := []) C I mX12_280 (rc_chain I hN hC2 (ko := 30) (no := 2144) rfl (by decide) (by decide) i j (digL nn (sl (bt σ ky) cc nn) j) (15 - digL nn (sl (bt σ ky) cc nn) j) (j * nn) (by omega) (by omega)) (hN 49 (by decide)) hC2.s.obj rfl (by decide) (by decide) ⟨by decide, by decide⟩ rfl (vi_c (ix_mul (a := j) (b := nn) (rfl : nI j = nI j) hC2.n) (vi_k (vi_c (ix_sub (a := 15) (b := (digL nn (sl (bt σ ky) cc nn) j)) (rfl : (15 : Int32) = nI 15) (by rw [bt_same (hk2 36 (by omega))]; exact h36) (by omega)) (vi_c (by rw [bt_same (hk2 36 (by omega))]; exact h36) (vi_c (rfl : nI j = nI j) (vi_c (rfl : nI i = nI i) rfl)))))) (Nat.le_of_ble_eq_true rfl) eX12_rootOf_80 (fun r σ3 hp => ?_)
    obtain ⟨rfl, hC3, hk3, hv3⟩ := hp
    refine v_iinc (lv' := [(0, .ref (ad 49)), (1, .int (nI i)), (2, .ref (ad kx)), (3, .int (nI a)), (4, .ref (ad ky)), (5, .int (nI cc)), (6, .int (nI (j + 1)))]) C eX12_rootOf_83 6 rfl (ix_inc _) (by decide) [1, 2, 3, 4, 5, 6, 0] rfl ?_
    refine v_goto (tgt := 11) C eX12_rootOf_86 (by decide) ?_
    refine ih σ3 ⟨hC3, fun k hk => (hk3 k (by omega)).trans ((hk2 k (by omega)).trans (hk1 k hk)), ?_⟩
    rw [hv3, hv2, hbx, sl_wr' sl_len, wr_wr (sl_len.trans (chL_len sl_len _).symm), hv1, wr_app (by rw [cat_len (rtC_len (fun _ => sl_len))]; omega)]
    rfl

end M22
