/-- how many primes there are among the first j numbers from 2 on -/
def cnP : Nat → Nat
  | 0 => 0
  | j + 1 => if pr (2 + j) = true then cnP j + 1 else cnP j
theorem cnP_mono {a : Nat} : ∀ n, cnP a ≤ cnP (a + n)
  | 0 => Nat.le_refl _
  | n + 1 => by
    have h := cnP_mono (a := a) n
    show cnP a ≤ if pr (2 + (a + n)) = true then cnP (a + n) + 1 else cnP (a + n)
    split <;> omega
theorem cnP_407 : cnP 407 = 79 ∧ cnP 408 = 80 := by decide +kernel
theorem cnP_lt {j : Nat} (h : j < 408) : cnP j < 80 := by
  have h1 := cnP_mono (a := j) (407 - j)
  rw [show j + (407 - j) = 407 by omega, cnP_407.1] at h1
  omega
def iW (k q : Nat) : Nat := ((List.range 32).find? (fun w => decide (1 ≤ w ∧ q < (w + 1) ^ k))).getD 1
theorem iW_2 : ∀ q, q < 410 → 2 ≤ q → (1 ≤ iW 2 q ∧ iW 2 q ≤ 31) ∧ (∀ v, v < iW 2 q → 1 ≤ v → (v + 1) ^ 2 ≤ q) ∧ q < (iW 2 q + 1) ^ 2 := by decide +kernel
theorem iW_3 : ∀ q, q < 410 → 2 ≤ q → (1 ≤ iW 3 q ∧ iW 3 q ≤ 31) ∧ (∀ v, v < iW 3 q → 1 ≤ v → (v + 1) ^ 3 ≤ q) ∧ q < (iW 3 q + 1) ^ 3 := by decide +kernel
def rtV (k q : Nat) : Int64 := lN (ptN (iW k q) k q 64)
def rtA (f : Nat → Int64) : Nat → Nat → Int64
  | 0 => f
  | j + 1 => if pr (2 + j) = true ∧ cnP j < 16 then vp_updL (rtA f j) (cnP j) (rtV 2 (2 + j)) else rtA f j
def cbA (f : Nat → Int64) : Nat → Nat → Int64
  | 0 => f
  | j + 1 => if pr (2 + j) = true then vp_updL (cbA f j) (cnP j) (rtV 3 (2 + j)) else cbA f j
section M46
variable {G : vG} {B : Nat} {l : Launch} {ad : Nat → Nat} {N : Nat} {σ : nS} {x : Nat → Int32} {t : Int64}
set_option maxRecDepth 100000 in
set_option maxHeartbeats 4000000 in
theorem cs_1 (I : nI1 ad N) (hN : ∀ k, k < 74 → k < N) {p : Program} {e : Env} {R : Room} {s : State} {m : MethodId} {args : Array Value} {below : List Frame} {meth : Method} {c : Code} {Q : State → Prop} (C : vC G B p m meth c cX12_constants 6 none s args yX12_constants.cls) (ho : σ 49 = eO 9 (mO ad x t)) (hn : σ 9 = eJ G 16 (jt σ 9)) (hp : σ 10 = eJ G 16 (jt σ 10)) {f5 f6 : Nat → Int64} (hr : σ 5 = eJ G 16 f5) (hc : σ 6 = eJ G 80 f6) {d1 : Nat} (hR : R = vRm d1 0 0) (hd1 : 2 ≤ d1) (kk : ∀ σ', ((∀ k, ¬ (k = 5 ∨ k = 6 ∨ k = 9 ∨ k = 10) → σ' k = σ k) ∧ σ' 9 = eJ G 16 (jt σ' 9) ∧ σ' 10 = eJ G 16 (jt σ' 10) ∧ σ' 5 = eJ G 16 (rtA f5 408) ∧ σ' 6 = eJ G 80 (cbA f6 408)) → V G B p l e R s m args below meth c 6 0 0 Q (nW ad N σ') 59 [(0, .ref (ad 49))] []) : V G B p l e R s m args below meth c 6 0 0 Q (nW ad N σ) 0 [(0, .ref (ad 49))] [] := by
  subst hR
  refine v_iconst (v := (0 : Int32)) C eX12_constants_0 (by decide) ?_
  refine v_natT (show (0 : Int32) = nI (cnP 0) from rfl) ?_
  refine v_istore_n (lv' := [(0, .ref (ad 49)), (1, .int (nI (cnP 0)))]) C eX12_constants_1 rfl (by decide) [1, 0] rfl ?_
  refine v_iconst (v := (2 : Int32)) C eX12_constants_2 (by decide) ?_
  refine v_natT (show (2 : Int32) = nI (2 + 0) from rfl) ?_
  refine v_istore_n (lv' := [(0, .ref (ad 49)), (1, .int (nI (cnP 0))), (2, .int (nI (2 + 0)))]) C eX12_constants_3 rfl (by decide) [1, 2, 0] rfl ?_
  refine v_forP (fun j τ => (∀ k, ¬ (k = 5 ∨ k = 6 ∨ k = 9 ∨ k = 10) → τ k = σ k) ∧ τ 9 = eJ G 16 (jt τ 9) ∧ τ 10 = eJ G 16 (jt τ 10) ∧ τ 5 = eJ G 16 (rtA f5 j) ∧ τ 6 = eJ G 80 (cbA f6 j)) (fun j => [(0, .ref (ad 49)), (1, .int (nI (cnP j))), (2, .int (nI (2 + j)))]) 408 ?_ ?_ _ ⟨fun k _ => rfl, hn, hp, hr, hc⟩
  · intro τ hI
    obtain ⟨hk1, hn1, hp1, hr1, hc1⟩ := hI
    have ho1 : τ 49 = eO 9 (mO ad x t) := (hk1 49 (by decide)).trans ho
    have h80 := cnP_407.2
    refine v_iload_n C eX12_constants_4 rfl 1 rfl ?_
    refine v_bipush (v := (80 : Int32)) C eX12_constants_5 (by decide) ?_
    refine v_icmp_ge (tgt := 59) C eX12_constants_7 (by decide) (fun _ => ?_) (fun h => absurd (ix_le (a := 80) (b := cnP 408) (rfl : (80 : Int32) = nI 80) (rfl : nI (cnP 408) = nI (cnP 408)) (by omega) (by omega) (by omega)) h)
    refine v_pick (lv' := [(0, .ref (ad 49))]) [0] rfl ?_
    exact kk τ ⟨hk1, hn1, hp1, hr1, hc1⟩
  · intro j hj ih τ hI
    obtain ⟨hk1, hn1, hp1, hr1, hc1⟩ := hI
    have ho1 : τ 49 = eO 9 (mO ad x t) := (hk1 49 (by decide)).trans ho
    have h80 := cnP_lt hj
    refine v_iload_n C eX12_constants_4 rfl 1 rfl ?_
    refine v_bipush (v := (80 : Int32)) C eX12_constants_5 (by decide) ?_
    refine v_icmp_ge (tgt := 59) C eX12_constants_7 (by decide) (fun h => absurd h (ix_nle (a := 80) (b := cnP j) (rfl : (80 : Int32) = nI 80) (rfl : nI (cnP j) = nI (cnP j)) (by omega) (by omega) (by omega))) (fun _ => ?_)
    refine v_iload_n C eX12_constants_10 rfl 2 rfl ?_
    refine n_callS (av := [.int (nI (2 + j))]) (rest := []) C mX12_150 (c_prime (2 + j) (by omega)) rfl (by omega) (by decide) ⟨by decide, by decide⟩ rfl (vi_c (rfl : nI (2 + j) = nI (2 + j)) rfl) (Nat.le_of_ble_eq_true rfl) eX12_constants_11 (fun r ρ hp => ?_)
    obtain ⟨rfl, hρ⟩ := hp
    rw [hρ]
    clear hρ ρ
    by_cases c : pr (2 + j) = true
    · rw [if_pos c]
      refine v_if_ne (tgt := 20) C eX12_constants_14 (by decide) (fun _ => ?_) (fun h => absurd h (by decide))
      rw [show cnP (j + 1) = cnP j + 1 from if_pos c, show cbA f6 (j + 1) = vp_updL (cbA f6 j) (cnP j) (rtV 3 (2 + j)) from if_pos c] at ih
      have W2 := iW_2 (2 + j) (by omega) (by omega)
      have W3 := iW_3 (2 + j) (by omega) (by omega)
      refine v_iload_n C eX12_constants_20 rfl 1 rfl ?_
      refine v_bipush (v := (16 : Int32)) C eX12_constants_21 (by decide) ?_
      by_cases c16 : cnP j < 16
      · refine v_icmp_ge (tgt := 38) C eX12_constants_23 (by decide) (fun h => absurd h (ix_nle (a := 16) (b := cnP j) (rfl : (16 : Int32) = nI 16) (rfl : nI (cnP j) = nI (cnP j)) (by omega) (by omega) (by omega))) (fun _ => ?_)
        rw [show rtA f5 (j + 1) = vp_updL (rtA f5 j) (cnP j) (rtV 2 (2 + j)) from if_pos ⟨c, c16⟩] at ih
        refine v_aload_n C eX12_constants_26 rfl 0 rfl ?_
        refine n_get C I fX12_23_X12 eX12_constants_27 (hN 49 (by decide)) ho1 rfl ?_
        refine v_iload_n C eX12_constants_30 rfl 1 rfl ?_
        refine v_aload_n C eX12_constants_31 rfl 0 rfl ?_
        refine v_iload_n C eX12_constants_32 rfl 2 rfl ?_
        refine v_iconst (v := (2 : Int32)) C eX12_constants_33 (by decide) ?_
        refine n_callV (As := [.int (nI (2 + j)), .int (nI 2)]) (rest := [.int (nI (cnP j)), .ref (ad 5)]) C I mX12_154 (c_root I hN ho1 hn1 hp1 (2 + j) 2 (iW 2 (2 + j)) (by decide) (by omega) W2.1 (fun v h1 h2 => W2.2.1 v h2 h1) W2.2.2) (hN 49 (by decide)) ho1 rfl (by omega) (by decide) ⟨by decide, by decide⟩ rfl (vi_c (rfl : (2 : Int32) = nI 2) (vi_c (rfl : nI (2 + j) = nI (2 + j)) rfl)) (Nat.le_of_ble_eq_true rfl) eX12_constants_34 (fun r σ2 hp => ?_)
        obtain ⟨rfl, hk2, hn2, hp2⟩ := hp
        have ho2 : σ2 49 = eO 9 (mO ad x t) := (hk2 49 (by decide)).trans ho1
        have hr2 : σ2 5 = eJ G 16 (rtA f5 j) := (hk2 5 (by decide)).trans hr1
        have hc2 : σ2 6 = eJ G 80 (cbA f6 j) := (hk2 6 (by decide)).trans hc1
        refine n_last C I eX12_constants_37 (hN 5 (by decide)) hr2 (cnP j) (rfl : nI (cnP j) = nI (cnP j)) (by omega) (by decide) ?_
        refine v_pic (fun σ3 hσ3 => ?_)
        have hr3 : σ3 5 = eJ G 16 (vp_updL (rtA f5 j) (cnP j) (rtV 2 (2 + j))) := by rw [hσ3]; exact n_self
        have hk3 : ∀ k, ¬ (k = 5) → σ3 k = σ2 k := fun k hk => by rw [hσ3]; exact n_ne hk
        have hc3 : σ3 6 = eJ G 80 (cbA f6 j) := (hk3 6 (by decide)).trans hc2
        have ho3 : σ3 49 = eO 9 (mO ad x t) := (hk3 49 (by decide)).trans ho2
        have hn3 : σ3 9 = eJ G 16 (jt σ3 9) := by rw [jt_same (hk3 9 (by decide)), hk3 9 (by decide)]; exact hn2
        have hp3 : σ3 10 = eJ G 16 (jt σ3 10) := by rw [jt_same (hk3 10 (by decide)), hk3 10 (by decide)]; exact hp2
        have kp3 : ∀ k, ¬ (k = 5 ∨ k = 6 ∨ k = 9 ∨ k = 10) → σ3 k = σ k := fun k hk => (hk3 k (by omega)).trans ((hk2 k (by omega)).trans (hk1 k hk))
        refine v_aload_n C eX12_constants_38 rfl 0 rfl ?_
        refine n_get C I fX12_27_X12 eX12_constants_39 (hN 49 (by decide)) ho3 rfl ?_
        refine v_iload_n C eX12_constants_42 rfl 1 rfl ?_
        refine v_aload_n C eX12_constants_43 rfl 0 rfl ?_
        refine v_iload_n C eX12_constants_44 rfl 2 rfl ?_
        refine v_iconst (v := (3 : Int32)) C eX12_constants_45 (by decide) ?_
        refine n_callV (As := [.int (nI (2 + j)), .int (nI 3)]) (rest := [.int (nI (cnP j)), .ref (ad 6)]) C I mX12_154 (c_root I hN ho3 hn3 hp3 (2 + j) 3 (iW 3 (2 + j)) (by decide) (by omega) W3.1 (fun v h1 h2 => W3.2.1 v h2 h1) W3.2.2) (hN 49 (by decide)) ho3 rfl (by omega) (by decide) ⟨by decide, by decide⟩ rfl (vi_c (rfl : (3 : Int32) = nI 3) (vi_c (rfl : nI (2 + j) = nI (2 + j)) rfl)) (Nat.le_of_ble_eq_true rfl) eX12_constants_46 (fun r σ4 hp => ?_)
        obtain ⟨rfl, hk4, hn4, hp4⟩ := hp
        have ho4 : σ4 49 = eO 9 (mO ad x t) := (hk4 49 (by decide)).trans ho3
        have hr4 : σ4 5 = eJ G 16 (vp_updL (rtA f5 j) (cnP j) (rtV 2 (2 + j))) := (hk4 5 (by decide)).trans hr3
        have hc4 : σ4 6 = eJ G 80 (cbA f6 j) := (hk4 6 (by decide)).trans hc3
        refine n_last C I eX12_constants_49 (hN 6 (by decide)) hc4 (cnP j) (rfl : nI (cnP j) = nI (cnP j)) (by omega) (by decide) ?_
        refine v_iinc (lv' := [(0, .ref (ad 49)), (1, .int (nI (cnP j + 1))), (2, .int (nI (2 + j)))]) C eX12_constants_50 1 rfl (ix_inc _) (by decide) [1, 0, 2] rfl ?_
        refine v_iinc (lv' := [(0, .ref (ad 49)), (1, .int (nI (cnP j + 1))), (2, .int (nI (2 + j + 1)))]) C eX12_constants_53 2 rfl (ix_inc _) (by decide) [1, 2, 0] rfl ?_
        refine v_goto (tgt := 4) C eX12_constants_56 (by decide) ?_
        refine ih _ ⟨fun k hk => (n_ne (by omega)).trans ((hk4 k (by omega)).trans (kp3 k hk)), hn4, hp4, hr4, n_self⟩
      · refine v_icmp_ge (tgt := 38) C eX12_constants_23 (by decide) (fun _ => ?_) (fun h => absurd (ix_le (a := 16) (b := cnP j) (rfl : (16 : Int32) = nI 16) (rfl : nI (cnP j) = nI (cnP j)) (by omega) (by omega) (by omega)) h)
        rw [show rtA f5 (j + 1) = rtA f5 j from if_neg (fun h => c16 h.2)] at ih
        refine v_aload_n C eX12_constants_38 rfl 0 rfl ?_
        refine n_get C I fX12_27_X12 eX12_constants_39 (hN 49 (by decide)) ho1 rfl ?_
        refine v_iload_n C eX12_constants_42 rfl 1 rfl ?_
        refine v_aload_n C eX12_constants_43 rfl 0 rfl ?_
        refine v_iload_n C eX12_constants_44 rfl 2 rfl ?_
        refine v_iconst (v := (3 : Int32)) C eX12_constants_45 (by decide) ?_
        refine n_callV (As := [.int (nI (2 + j)), .int (nI 3)]) (rest := [.int (nI (cnP j)), .ref (ad 6)]) C I mX12_154 (c_root I hN ho1 hn1 hp1 (2 + j) 3 (iW 3 (2 + j)) (by decide) (by omega) W3.1 (fun v h1 h2 => W3.2.1 v h2 h1) W3.2.2) (hN 49 (by decide)) ho1 rfl (by omega) (by decide) ⟨by decide, by decide⟩ rfl (vi_c (rfl : (3 : Int32) = nI 3) (vi_c (rfl : nI (2 + j) = nI (2 + j)) rfl)) (Nat.le_of_ble_eq_true rfl) eX12_constants_46 (fun r σ4 hp => ?_)
        obtain ⟨rfl, hk4, hn4, hp4⟩ := hp
        have ho4 : σ4 49 = eO 9 (mO ad x t) := (hk4 49 (by decide)).trans ho1
        have hr4 : σ4 5 = eJ G 16 (rtA f5 j) := (hk4 5 (by decide)).trans hr1
        have hc4 : σ4 6 = eJ G 80 (cbA f6 j) := (hk4 6 (by decide)).trans hc1
        refine n_last C I eX12_constants_49 (hN 6 (by decide)) hc4 (cnP j) (rfl : nI (cnP j) = nI (cnP j)) (by omega) (by decide) ?_
        refine v_iinc (lv' := [(0, .ref (ad 49)), (1, .int (nI (cnP j + 1))), (2, .int (nI (2 + j)))]) C eX12_constants_50 1 rfl (ix_inc _) (by decide) [1, 0, 2] rfl ?_
        refine v_iinc (lv' := [(0, .ref (ad 49)), (1, .int (nI (cnP j + 1))), (2, .int (nI (2 + j + 1)))]) C eX12_constants_53 2 rfl (ix_inc _) (by decide) [1, 2, 0] rfl ?_
        refine v_goto (tgt := 4) C eX12_constants_56 (by decide) ?_
        refine ih _ ⟨fun k hk => (n_ne (by omega)).trans ((hk4 k (by omega)).trans (hk1 k hk)), hn4, hp4, hr4, n_self⟩
    · rw [if_neg c]
      refine v_if_ne (tgt := 20) C eX12_constants_14 (by decide) (fun h => absurd rfl h) (fun _ => ?_)
      rw [show cnP (j + 1) = cnP j from if_neg c, show rtA f5 (j + 1) = rtA f5 j from if_neg (fun h => c h.1), show cbA f6 (j + 1) = cbA f6 j from if_neg c] at ih
      refine v_goto (tgt := 53) C eX12_constants_17 (by decide) ?_
      refine v_iinc (lv' := [(0, .ref (ad 49)), (1, .int (nI (cnP j))), (2, .int (nI (2 + j + 1)))]) C eX12_constants_53 2 rfl (ix_inc _) (by decide) [1, 2, 0] rfl ?_
      refine v_goto (tgt := 4) C eX12_constants_56 (by decide) ?_
      exact ih τ ⟨hk1, hn1, hp1, hr1, hc1⟩

end M46
