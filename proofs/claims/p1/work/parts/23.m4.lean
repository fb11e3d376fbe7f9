theorem eX12_put_0 : vD cX12_put 0 (.aload_n 0) 1 1 := ⟨by decide +kernel, rfl⟩
theorem eX12_put_1 : vD cX12_put 1 (.invokevirtual 198) 3 4 := ⟨by decide +kernel, rfl⟩
theorem eX12_put_4 : vD cX12_put 4 (.ifCond .eq 15) 3 7 := ⟨by decide +kernel, rfl⟩
theorem eX12_put_7 : vD cX12_put 7 (.aload_n 0) 1 8 := ⟨by decide +kernel, rfl⟩
theorem eX12_put_8 : vD cX12_put 8 (.aload_n 0) 1 9 := ⟨by decide +kernel, rfl⟩
theorem eX12_put_9 : vD cX12_put 9 (.getfield 180) 3 12 := ⟨by decide +kernel, rfl⟩
theorem eX12_put_12 : vD cX12_put 12 (.iload_n 1) 1 13 := ⟨by decide +kernel, rfl⟩
theorem eX12_put_13 : vD cX12_put 13 (.invokevirtual 202) 3 16 := ⟨by decide +kernel, rfl⟩
theorem eX12_put_16 : vD cX12_put 16 (.goto 14) 3 19 := ⟨by decide +kernel, rfl⟩
theorem eX12_put_19 : vD cX12_put 19 (.aload_n 0) 1 20 := ⟨by decide +kernel, rfl⟩
theorem eX12_put_20 : vD cX12_put 20 (.getfield 60) 3 23 := ⟨by decide +kernel, rfl⟩
theorem eX12_put_23 : vD cX12_put 23 (.aload_n 0) 1 24 := ⟨by decide +kernel, rfl⟩
theorem eX12_put_24 : vD cX12_put 24 (.getfield 180) 3 27 := ⟨by decide +kernel, rfl⟩
theorem eX12_put_27 : vD cX12_put 27 (.iload_n 1) 1 28 := ⟨by decide +kernel, rfl⟩
theorem eX12_put_28 : vD cX12_put 28 .i2b 1 29 := ⟨by decide +kernel, rfl⟩
theorem eX12_put_29 : vD cX12_put 29 .bastore 1 30 := ⟨by decide +kernel, rfl⟩
theorem eX12_put_30 : vD cX12_put 30 (.aload_n 0) 1 31 := ⟨by decide +kernel, rfl⟩
theorem eX12_put_31 : vD cX12_put 31 .dup 1 32 := ⟨by decide +kernel, rfl⟩
theorem eX12_put_32 : vD cX12_put 32 (.getfield 180) 3 35 := ⟨by decide +kernel, rfl⟩
theorem eX12_put_35 : vD cX12_put 35 (.iconst 1) 1 36 := ⟨by decide +kernel, rfl⟩
theorem eX12_put_36 : vD cX12_put 36 .iadd 1 37 := ⟨by decide +kernel, rfl⟩
theorem eX12_put_37 : vD cX12_put 37 (.putfield 180) 3 40 := ⟨by decide +kernel, rfl⟩
theorem eX12_put_40 : vD cX12_put 40 (.aload_n 0) 1 41 := ⟨by decide +kernel, rfl⟩
theorem eX12_put_41 : vD cX12_put 41 .dup 1 42 := ⟨by decide +kernel, rfl⟩
theorem eX12_put_42 : vD cX12_put 42 (.getfield 183) 3 45 := ⟨by decide +kernel, rfl⟩
theorem eX12_put_45 : vD cX12_put 45 (.lconst 1) 1 46 := ⟨by decide +kernel, rfl⟩
theorem eX12_put_46 : vD cX12_put 46 .ladd 1 47 := ⟨by decide +kernel, rfl⟩
theorem eX12_put_47 : vD cX12_put 47 (.putfield 183) 3 50 := ⟨by decide +kernel, rfl⟩
theorem eX12_put_50 : vD cX12_put 50 (.aload_n 0) 1 51 := ⟨by decide +kernel, rfl⟩
theorem eX12_put_51 : vD cX12_put 51 (.getfield 180) 3 54 := ⟨by decide +kernel, rfl⟩
theorem eX12_put_54 : vD cX12_put 54 (.aload_n 0) 1 55 := ⟨by decide +kernel, rfl⟩
theorem eX12_put_55 : vD cX12_put 55 (.getfield 193) 3 58 := ⟨by decide +kernel, rfl⟩
theorem eX12_put_58 : vD cX12_put 58 (.if_icmp .ne 42) 3 61 := ⟨by decide +kernel, rfl⟩
theorem eX12_put_61 : vD cX12_put 61 (.aload_n 0) 1 62 := ⟨by decide +kernel, rfl⟩
theorem eX12_put_62 : vD cX12_put 62 (.invokevirtual 198) 3 65 := ⟨by decide +kernel, rfl⟩
theorem eX12_put_65 : vD cX12_put 65 (.ifCond .eq 10) 3 68 := ⟨by decide +kernel, rfl⟩
theorem eX12_put_68 : vD cX12_put 68 (.aload_n 0) 1 69 := ⟨by decide +kernel, rfl⟩
theorem eX12_put_69 : vD cX12_put 69 (.invokevirtual 206) 3 72 := ⟨by decide +kernel, rfl⟩
theorem eX12_put_72 : vD cX12_put 72 (.goto 23) 3 75 := ⟨by decide +kernel, rfl⟩
theorem eX12_put_75 : vD cX12_put 75 (.aload_n 0) 1 76 := ⟨by decide +kernel, rfl⟩
theorem eX12_put_76 : vD cX12_put 76 (.getfield 193) 3 79 := ⟨by decide +kernel, rfl⟩
theorem eX12_put_79 : vD cX12_put 79 (.bipush 64) 2 81 := ⟨by decide +kernel, rfl⟩
theorem eX12_put_81 : vD cX12_put 81 (.if_icmp .ne 10) 3 84 := ⟨by decide +kernel, rfl⟩
theorem eX12_put_84 : vD cX12_put 84 (.aload_n 0) 1 85 := ⟨by decide +kernel, rfl⟩
theorem eX12_put_85 : vD cX12_put 85 (.invokevirtual 209) 3 88 := ⟨by decide +kernel, rfl⟩
theorem eX12_put_88 : vD cX12_put 88 (.goto 7) 3 91 := ⟨by decide +kernel, rfl⟩
theorem eX12_put_91 : vD cX12_put 91 (.aload_n 0) 1 92 := ⟨by decide +kernel, rfl⟩
theorem eX12_put_92 : vD cX12_put 92 (.invokevirtual 212) 3 95 := ⟨by decide +kernel, rfl⟩
theorem eX12_put_95 : vD cX12_put 95 (.aload_n 0) 1 96 := ⟨by decide +kernel, rfl⟩
theorem eX12_put_96 : vD cX12_put 96 (.iconst 0) 1 97 := ⟨by decide +kernel, rfl⟩
theorem eX12_put_97 : vD cX12_put 97 (.putfield 180) 3 100 := ⟨by decide +kernel, rfl⟩
theorem eX12_put_100 : vD cX12_put 100 .return_ 1 101 := ⟨by decide +kernel, rfl⟩

/-! THE REFERENCE'S STREAM: what a hash in the making is. S the state, O D the sponge's side rows, W the words, Bk the block, how many bytes stand in it, how many there were -/
abbrev hT : Type := (Nat → Int64) × (Nat → Int64) × (Nat → Int64) × (Nat → Int64) × (Nat → Int32) × Nat × Int64
/-- kinds: 1 SHA-256, 3 SHA-512, 12 SHAKE256 -/
def rateK (k : Nat) : Nat := if k = 1 then 64 else if k = 3 then 128 else 136
def hσ (G : vG) (ad : Nat → Nat) (σ : nS) (x : Nat → Int32) (k : Nat) (h : hT) : nS := va_up (va_up (va_up (va_up (va_up (va_up σ 13 (eJ G 25 h.1)) 14 (eJ G 25 h.2.1)) 15 (eJ G 5 h.2.2.1)) 16 (eJ G 80 h.2.2.2.1)) 17 (eB G 128 h.2.2.2.2.1)) 49 (eO 9 (mO ad (upd (upd (upd x 18 (nI k)) 19 (nI (rateK k))) 20 (nI h.2.2.2.2.2.1)) h.2.2.2.2.2.2))
def hBlk (T : Nat → Int32) (Rc K : Nat → Int64) (k : Nat) (h : hT) : hT := match h with
  | (S, O, D, W, Bk, _, t) => if k = 12 then ((itN (pmR T Rc) 24 (S, O, D)).1, (itN (pmR T Rc) 24 (S, O, D)).2.1, (itN (pmR T Rc) 24 (S, O, D)).2.2, W, Bk, 0, t) else if k = 1 then (c32 K Bk W S, O, D, c32W Bk W, Bk, 0, t) else (c64 K Bk W S, O, D, c64W Bk W, Bk, 0, t)
def hPut1 (k : Nat) (v : Int32) (h : hT) : hT := match h with
  | (S, O, D, W, Bk, f, t) => if k = 12 then (sp1 S f v, O, D, W, Bk, f + 1, t + 1) else (S, O, D, W, upd Bk f (vp_nar .byte v.toInt8.toInt32), f + 1, t + 1)
/-- one byte more -/
def hPut (T : Nat → Int32) (Rc K : Nat → Int64) (k : Nat) (v : Int32) (h : hT) : hT := if h.2.2.2.2.2.1 + 1 = rateK k then hBlk T Rc K k (hPut1 k v h) else hPut1 k v h
section M4
variable {G : vG} {B : Nat} {l : Launch} {ad : Nat → Nat} {N : Nat}
set_option maxRecDepth 100000 in
set_option maxHeartbeats 4000000 in
theorem c_put1 (I : nI1 ad N) (hN : ∀ k, k < 74 → k < N) {σ : nS} {x T : Nat → Int32} {Rc K : Nat → Int64} (h11 : σ 11 = eI G 25 T) (h12 : σ 12 = eJ G 24 Rc) (h6 : σ 6 = eJ G 80 K) (S O D W : Nat → Int64) (Bk : Nat → Int32) (fl : Nat) (tt : Int64) (v : Int32) (hf : fl < 64) : nOk G B l ad N yX12_put cX12_put 2 none 2 0 0 [.ref (ad 49), .int v] (hσ G ad σ x 1 (S, O, D, W, Bk, fl, tt)) (fun r σ' => r = none ∧ σ' = hσ G ad σ x 1 (hPut T Rc K 1 v (S, O, D, W, Bk, fl, tt))) := by
  refine vOk.of (by decide +kernel) (Nat.le_of_ble_eq_true rfl) ?_
  intro p e s m args below meth c C
  refine v_eq (lv' := [(0, .ref (ad 49)), (1, .int v)]) rfl rfl rfl ?_
  refine v_eq (w' := nW ad N (va_up (va_up (va_up (va_up (va_up (va_up σ 13 (eJ G 25 S)) 14 (eJ G 25 O)) 15 (eJ G 5 D)) 16 (eJ G 80 W)) 17 (eB G 128 Bk)) 49 (eO 9 (mO ad (upd (upd (upd x 18 (nI 1)) 19 (nI (rateK 1))) 20 (nI fl)) tt)))) rfl rfl rfl ?_
  refine v_aload_n C eX12_put_0 rfl 0 rfl ?_
  refine n_callV (As := []) (rest := []) C I mX12_198 (c_sponge I hN rfl) (hN 49 (by decide)) rfl rfl (by omega) (by decide) ⟨by decide, by decide⟩ rfl rfl (Nat.le_of_ble_eq_true rfl) eX12_put_1 (fun r σ' hp => ?_)
  obtain ⟨rfl, rfl⟩ := hp
  refine v_if_eq (tgt := 19) C eX12_put_4 (by decide) (fun _ => ?_) (fun h => absurd (show (if nI 1 ≤ (6 : Int32) then (0 : Int32) else 1) = 0 from by decide +kernel) h)
  refine v_aload_n C eX12_put_19 rfl 0 rfl ?_
  refine n_get C I fX12_60_X12 eX12_put_20 (hN 49 (by decide)) rfl rfl ?_
  refine v_aload_n C eX12_put_23 rfl 0 rfl ?_
  refine n_get C I fX12_180_X12 eX12_put_24 (hN 49 (by decide)) rfl rfl ?_
  refine v_iload_n C eX12_put_27 rfl 1 rfl ?_
  refine v_i2b C eX12_put_28 ?_
  refine n_bast C I eX12_put_29 (hN 17 (by decide)) rfl fl (rfl : nI fl = nI fl) (by have : rateK 1 = 64 := rfl; omega) (by decide) ?_
  refine v_aload_n C eX12_put_30 rfl 0 rfl ?_
  refine v_dup C eX12_put_31 rfl ?_
  refine n_get C I fX12_180_X12 eX12_put_32 (hN 49 (by decide)) rfl rfl ?_
  refine v_iconst (v := (1 : Int32)) C eX12_put_35 (by decide) ?_
  refine v_iadd C eX12_put_36 ?_
  refine v_natT (show (nI fl) + ((1 : Int32)) = nI (fl + 1) from (ix_add (a := fl) (b := 1) (rfl : nI fl = nI fl) (rfl : (1 : Int32) = nI 1))) ?_
  refine n_put (fs' := mO ad (upd (upd (upd x 18 (nI 1)) 19 (nI (rateK 1))) 20 (nI (fl + 1))) tt) C I fX12_180_X12p eX12_put_37 (hN 49 (by decide)) rfl rfl rfl (Nat.le_of_ble_eq_true rfl) rfl ?_
  refine v_aload_n C eX12_put_40 rfl 0 rfl ?_
  refine v_dup C eX12_put_41 rfl ?_
  refine n_get C I fX12_183_X12 eX12_put_42 (hN 49 (by decide)) rfl rfl ?_
  refine v_lconst (v := (1 : Int64)) C eX12_put_45 (by decide) ?_
  refine v_ladd C eX12_put_46 ?_
  refine n_put (fs' := mO ad (upd (upd (upd x 18 (nI 1)) 19 (nI (rateK 1))) 20 (nI (fl + 1))) (tt + ((1 : Int64)))) C I fX12_183_X12p eX12_put_47 (hN 49 (by decide)) rfl rfl rfl (Nat.le_of_ble_eq_true rfl) rfl ?_
  refine v_aload_n C eX12_put_50 rfl 0 rfl ?_
  refine n_get C I fX12_180_X12 eX12_put_51 (hN 49 (by decide)) rfl rfl ?_
  refine v_aload_n C eX12_put_54 rfl 0 rfl ?_
  refine n_get C I fX12_193_X12 eX12_put_55 (hN 49 (by decide)) rfl rfl ?_
  refine v_icmp_ne (tgt := 100) C eX12_put_58 (by decide) (fun c1 => ?_) (fun c1 => ?_)
  · refine v_eq (w' := nW ad N (va_up (va_up (va_up (va_up (va_up (va_up σ 13 (eJ G 25 S)) 14 (eJ G 25 O)) 15 (eJ G 5 D)) 16 (eJ G 80 W)) 17 (eB G 128 (upd Bk fl (vp_nar .byte v.toInt8.toInt32)))) 49 (eO 9 (mO ad (upd (upd (upd x 18 (nI 1)) 19 (nI (rateK 1))) 20 (nI (fl + 1))) (tt + ((1 : Int64))))))) (congrArg (nW ad N) (n_extL [13, 14, 15, 16, 17, 49] ⟨rfl, rfl, rfl, rfl, rfl, rfl, trivial⟩ (fun q h => by simp only [List.mem_cons, List.not_mem_nil, or_false, not_or] at h; simp [va_up, h]))) rfl rfl ?_
    exact n_vret C rfl eX12_put_100 ⟨rfl, by rw [hPut, if_neg (fun q : fl + 1 = rateK 1 => c1 (congrArg nI q))]; rfl⟩
  · refine v_aload_n C eX12_put_61 rfl 0 rfl ?_
    refine n_callV (As := []) (rest := []) C I mX12_198 (c_sponge I hN rfl) (hN 49 (by decide)) rfl rfl (by omega) (by decide) ⟨by decide, by decide⟩ rfl rfl (Nat.le_of_ble_eq_true rfl) eX12_put_62 (fun r σ' hp => ?_)
    obtain ⟨rfl, rfl⟩ := hp
    refine v_if_eq (tgt := 75) C eX12_put_65 (by decide) (fun _ => ?_) (fun h => absurd (show (if nI 1 ≤ (6 : Int32) then (0 : Int32) else 1) = 0 from by decide +kernel) h)
    refine v_aload_n C eX12_put_75 rfl 0 rfl ?_
    refine n_get C I fX12_193_X12 eX12_put_76 (hN 49 (by decide)) rfl rfl ?_
    refine v_bipush (v := (64 : Int32)) C eX12_put_79 (by decide) ?_
    refine v_icmp_ne (tgt := 91) C eX12_put_81 (by decide) (fun h => absurd (ix_eq (a := 64) (b := 64) (rfl : nI (rateK 1) = nI 64) (rfl : (64 : Int32) = nI 64) (by omega) (by omega) (by omega)) h) (fun _ => ?_)
    refine v_aload_n C eX12_put_84 rfl 0 rfl ?_
    refine n_callV (As := []) (rest := []) C I mX12_209 (c_compress32 I hN rfl rfl rfl rfl h6) (hN 49 (by decide)) rfl rfl (by omega) (by decide) ⟨by decide, by decide⟩ rfl rfl (Nat.le_of_ble_eq_true rfl) eX12_put_85 (fun r σ' hp => ?_)
    obtain ⟨rfl, rfl⟩ := hp
    refine v_goto (tgt := 95) C eX12_put_88 (by decide) ?_
    refine v_aload_n C eX12_put_95 rfl 0 rfl ?_
    refine v_iconst (v := nI 0) C eX12_put_96 (by decide) ?_
    refine n_put (fs' := mO ad (upd (upd (upd x 18 (nI 1)) 19 (nI (rateK 1))) 20 (nI 0)) (tt + ((1 : Int64)))) C I fX12_180_X12p eX12_put_97 (hN 49 (by decide)) rfl rfl rfl (Nat.le_of_ble_eq_true rfl) rfl ?_
    refine v_eq (w' := nW ad N (va_up (va_up (va_up (va_up (va_up (va_up σ 13 (eJ G 25 (c32 K (upd Bk fl (vp_nar .byte v.toInt8.toInt32)) W S))) 14 (eJ G 25 O)) 15 (eJ G 5 D)) 16 (eJ G 80 (c32W (upd Bk fl (vp_nar .byte v.toInt8.toInt32)) W))) 17 (eB G 128 (upd Bk fl (vp_nar .byte v.toInt8.toInt32)))) 49 (eO 9 (mO ad (upd (upd (upd x 18 (nI 1)) 19 (nI (rateK 1))) 20 (nI 0)) (tt + ((1 : Int64))))))) (congrArg (nW ad N) (n_extL [13, 14, 15, 16, 17, 49] ⟨rfl, rfl, rfl, rfl, rfl, rfl, trivial⟩ (fun q h => by simp only [List.mem_cons, List.not_mem_nil, or_false, not_or] at h; simp [va_up, h]))) rfl rfl ?_
    have hq : fl + 1 = rateK 1 := (nI_eq (by omega) (by decide)).mp c1
    exact n_vret C rfl eX12_put_100 ⟨rfl, by rw [hPut, if_pos hq]; rfl⟩

set_option maxRecDepth 100000 in
set_option maxHeartbeats 4000000 in
theorem c_put3 (I : nI1 ad N) (hN : ∀ k, k < 74 → k < N) {σ : nS} {x T : Nat → Int32} {Rc K : Nat → Int64} (h11 : σ 11 = eI G 25 T) (h12 : σ 12 = eJ G 24 Rc) (h6 : σ 6 = eJ G 80 K) (S O D W : Nat → Int64) (Bk : Nat → Int32) (fl : Nat) (tt : Int64) (v : Int32) (hf : fl < 128) : nOk G B l ad N yX12_put cX12_put 2 none 2 0 0 [.ref (ad 49), .int v] (hσ G ad σ x 3 (S, O, D, W, Bk, fl, tt)) (fun r σ' => r = none ∧ σ' = hσ G ad σ x 3 (hPut T Rc K 3 v (S, O, D, W, Bk, fl, tt))) := by
  refine vOk.of (by decide +kernel) (Nat.le_of_ble_eq_true rfl) ?_
  intro p e s m args below meth c C
  refine v_eq (lv' := [(0, .ref (ad 49)), (1, .int v)]) rfl rfl rfl ?_
  refine v_eq (w' := nW ad N (va_up (va_up (va_up (va_up (va_up (va_up σ 13 (eJ G 25 S)) 14 (eJ G 25 O)) 15 (eJ G 5 D)) 16 (eJ G 80 W)) 17 (eB G 128 Bk)) 49 (eO 9 (mO ad (upd (upd (upd x 18 (nI 3)) 19 (nI (rateK 3))) 20 (nI fl)) tt)))) rfl rfl rfl ?_
  refine v_aload_n C eX12_put_0 rfl 0 rfl ?_
  refine n_callV (As := []) (rest := []) C I mX12_198 (c_sponge I hN rfl) (hN 49 (by decide)) rfl rfl (by omega) (by decide) ⟨by decide, by decide⟩ rfl rfl (Nat.le_of_ble_eq_true rfl) eX12_put_1 (fun r σ' hp => ?_)
  obtain ⟨rfl, rfl⟩ := hp
  refine v_if_eq (tgt := 19) C eX12_put_4 (by decide) (fun _ => ?_) (fun h => absurd (show (if nI 3 ≤ (6 : Int32) then (0 : Int32) else 1) = 0 from by decide +kernel) h)
  refine v_aload_n C eX12_put_19 rfl 0 rfl ?_
  refine n_get C I fX12_60_X12 eX12_put_20 (hN 49 (by decide)) rfl rfl ?_
  refine v_aload_n C eX12_put_23 rfl 0 rfl ?_
  refine n_get C I fX12_180_X12 eX12_put_24 (hN 49 (by decide)) rfl rfl ?_
  refine v_iload_n C eX12_put_27 rfl 1 rfl ?_
  refine v_i2b C eX12_put_28 ?_
  refine n_bast C I eX12_put_29 (hN 17 (by decide)) rfl fl (rfl : nI fl = nI fl) (by have : rateK 3 = 128 := rfl; omega) (by decide) ?_
  refine v_aload_n C eX12_put_30 rfl 0 rfl ?_
  refine v_dup C eX12_put_31 rfl ?_
  refine n_get C I fX12_180_X12 eX12_put_32 (hN 49 (by decide)) rfl rfl ?_
  refine v_iconst (v := (1 : Int32)) C eX12_put_35 (by decide) ?_
  refine v_iadd C eX12_put_36 ?_
  refine v_natT (show (nI fl) + ((1 : Int32)) = nI (fl + 1) from (ix_add (a := fl) (b := 1) (rfl : nI fl = nI fl) (rfl : (1 : Int32) = nI 1))) ?_
  refine n_put (fs' := mO ad (upd (upd (upd x 18 (nI 3)) 19 (nI (rateK 3))) 20 (nI (fl + 1))) tt) C I fX12_180_X12p eX12_put_37 (hN 49 (by decide)) rfl rfl rfl (Nat.le_of_ble_eq_true rfl) rfl ?_
  refine v_aload_n C eX12_put_40 rfl 0 rfl ?_
  refine v_dup C eX12_put_41 rfl ?_
  refine n_get C I fX12_183_X12 eX12_put_42 (hN 49 (by decide)) rfl rfl ?_
  refine v_lconst (v := (1 : Int64)) C eX12_put_45 (by decide) ?_
  refine v_ladd C eX12_put_46 ?_
  refine n_put (fs' := mO ad (upd (upd (upd x 18 (nI 3)) 19 (nI (rateK 3))) 20 (nI (fl + 1))) (tt + ((1 : Int64)))) C I fX12_183_X12p eX12_put_47 (hN 49 (by decide)) rfl rfl rfl (Nat.le_of_ble_eq_true rfl) rfl ?_
  refine v_aload_n C eX12_put_50 rfl 0 rfl ?_
  refine n_get C I fX12_180_X12 eX12_put_51 (hN 49 (by decide)) rfl rfl ?_
  refine v_aload_n C eX12_put_54 rfl 0 rfl ?_
  refine n_get C I fX12_193_X12 eX12_put_55 (hN 49 (by decide)) rfl rfl ?_
  refine v_icmp_ne (tgt := 100) C eX12_put_58 (by decide) (fun c1 => ?_) (fun c1 => ?_)
  · refine v_eq (w' := nW ad N (va_up (va_up (va_up (va_up (va_up (va_up σ 13 (eJ G 25 S)) 14 (eJ G 25 O)) 15 (eJ G 5 D)) 16 (eJ G 80 W)) 17 (eB G 128 (upd Bk fl (vp_nar .byte v.toInt8.toInt32)))) 49 (eO 9 (mO ad (upd (upd (upd x 18 (nI 3)) 19 (nI (rateK 3))) 20 (nI (fl + 1))) (tt + ((1 : Int64))))))) (congrArg (nW ad N) (n_extL [13, 14, 15, 16, 17, 49] ⟨rfl, rfl, rfl, rfl, rfl, rfl, trivial⟩ (fun q h => by simp only [List.mem_cons, List.not_mem_nil, or_false, not_or] at h; simp [va_up, h]))) rfl rfl ?_
    exact n_vret C rfl eX12_put_100 ⟨rfl, by rw [hPut, if_neg (fun q : fl + 1 = rateK 3 => c1 (congrArg nI q))]; rfl⟩
  · refine v_aload_n C eX12_put_61 rfl 0 rfl ?_
    refine n_callV (As := []) (rest := []) C I mX12_198 (c_sponge I hN rfl) (hN 49 (by decide)) rfl rfl (by omega) (by decide) ⟨by decide, by decide⟩ rfl rfl (Nat.le_of_ble_eq_true rfl) eX12_put_62 (fun r σ' hp => ?_)
    obtain ⟨rfl, rfl⟩ := hp
    refine v_if_eq (tgt := 75) C eX12_put_65 (by decide) (fun _ => ?_) (fun h => absurd (show (if nI 3 ≤ (6 : Int32) then (0 : Int32) else 1) = 0 from by decide +kernel) h)
    refine v_aload_n C eX12_put_75 rfl 0 rfl ?_
    refine n_get C I fX12_193_X12 eX12_put_76 (hN 49 (by decide)) rfl rfl ?_
    refine v_bipush (v := (64 : Int32)) C eX12_put_79 (by decide) ?_
    refine v_icmp_ne (tgt := 91) C eX12_put_81 (by decide) (fun _ => ?_) (fun h => absurd h (ix_ne (a := 128) (b := 64) (rfl : nI (rateK 3) = nI 128) (rfl : (64 : Int32) = nI 64) (by omega) (by omega) (by omega)))
    refine v_aload_n C eX12_put_91 rfl 0 rfl ?_
    refine n_callV (As := []) (rest := []) C I mX12_212 (c_compress64 I hN rfl rfl rfl rfl h6) (hN 49 (by decide)) rfl rfl (by omega) (by decide) ⟨by decide, by decide⟩ rfl rfl (Nat.le_of_ble_eq_true rfl) eX12_put_92 (fun r σ' hp => ?_)
    obtain ⟨rfl, rfl⟩ := hp
    refine v_aload_n C eX12_put_95 rfl 0 rfl ?_
    refine v_iconst (v := nI 0) C eX12_put_96 (by decide) ?_
    refine n_put (fs' := mO ad (upd (upd (upd x 18 (nI 3)) 19 (nI (rateK 3))) 20 (nI 0)) (tt + ((1 : Int64)))) C I fX12_180_X12p eX12_put_97 (hN 49 (by decide)) rfl rfl rfl (Nat.le_of_ble_eq_true rfl) rfl ?_
    refine v_eq (w' := nW ad N (va_up (va_up (va_up (va_up (va_up (va_up σ 13 (eJ G 25 (c64 K (upd Bk fl (vp_nar .byte v.toInt8.toInt32)) W S))) 14 (eJ G 25 O)) 15 (eJ G 5 D)) 16 (eJ G 80 (c64W (upd Bk fl (vp_nar .byte v.toInt8.toInt32)) W))) 17 (eB G 128 (upd Bk fl (vp_nar .byte v.toInt8.toInt32)))) 49 (eO 9 (mO ad (upd (upd (upd x 18 (nI 3)) 19 (nI (rateK 3))) 20 (nI 0)) (tt + ((1 : Int64))))))) (congrArg (nW ad N) (n_extL [13, 14, 15, 16, 17, 49] ⟨rfl, rfl, rfl, rfl, rfl, rfl, trivial⟩ (fun q h => by simp only [List.mem_cons, List.not_mem_nil, or_false, not_or] at h; simp [va_up, h]))) rfl rfl ?_
    have hq : fl + 1 = rateK 3 := (nI_eq (by omega) (by decide)).mp c1
    exact n_vret C rfl eX12_put_100 ⟨rfl, by rw [hPut, if_pos hq]; rfl⟩

set_option maxRecDepth 100000 in
set_option maxHeartbeats 4000000 in
theorem c_put12 (I : nI1 ad N) (hN : ∀ k, k < 74 → k < N) {σ : nS} {x T : Nat → Int32} {Rc K : Nat → Int64} (h11 : σ 11 = eI G 25 T) (h12 : σ 12 = eJ G 24 Rc) (h6 : σ 6 = eJ G 80 K) (S O D W : Nat → Int64) (Bk : Nat → Int32) (fl : Nat) (tt : Int64) (v : Int32) (hf : fl < 136) : nOk G B l ad N yX12_put cX12_put 2 none 2 0 0 [.ref (ad 49), .int v] (hσ G ad σ x 12 (S, O, D, W, Bk, fl, tt)) (fun r σ' => r = none ∧ σ' = hσ G ad σ x 12 (hPut T Rc K 12 v (S, O, D, W, Bk, fl, tt))) := by
  refine vOk.of (by decide +kernel) (Nat.le_of_ble_eq_true rfl) ?_
  intro p e s m args below meth c C
  refine v_eq (lv' := [(0, .ref (ad 49)), (1, .int v)]) rfl rfl rfl ?_
  refine v_eq (w' := nW ad N (va_up (va_up (va_up (va_up (va_up (va_up σ 13 (eJ G 25 S)) 14 (eJ G 25 O)) 15 (eJ G 5 D)) 16 (eJ G 80 W)) 17 (eB G 128 Bk)) 49 (eO 9 (mO ad (upd (upd (upd x 18 (nI 12)) 19 (nI (rateK 12))) 20 (nI fl)) tt)))) rfl rfl rfl ?_
  refine v_aload_n C eX12_put_0 rfl 0 rfl ?_
  refine n_callV (As := []) (rest := []) C I mX12_198 (c_sponge I hN rfl) (hN 49 (by decide)) rfl rfl (by omega) (by decide) ⟨by decide, by decide⟩ rfl rfl (Nat.le_of_ble_eq_true rfl) eX12_put_1 (fun r σ' hp => ?_)
  obtain ⟨rfl, rfl⟩ := hp
  refine v_if_eq (tgt := 19) C eX12_put_4 (by decide) (fun h => absurd h (show ¬ (if nI 12 ≤ (6 : Int32) then (0 : Int32) else 1) = 0 from by decide +kernel)) (fun _ => ?_)
  refine v_aload_n C eX12_put_7 rfl 0 rfl ?_
  refine v_aload_n C eX12_put_8 rfl 0 rfl ?_
  refine n_get C I fX12_180_X12 eX12_put_9 (hN 49 (by decide)) rfl rfl ?_
  refine v_iload_n C eX12_put_12 rfl 1 rfl ?_
  refine n_callV (As := [.int (nI fl), .int v]) (rest := []) C I mX12_202 (c_flip I hN rfl rfl fl v (by omega)) (hN 49 (by decide)) rfl rfl (by omega) (by decide) ⟨by decide, by decide⟩ rfl rfl (Nat.le_of_ble_eq_true rfl) eX12_put_13 (fun r σ' hp => ?_)
  obtain ⟨rfl, rfl⟩ := hp
  refine v_goto (tgt := 30) C eX12_put_16 (by decide) ?_
  refine v_aload_n C eX12_put_30 rfl 0 rfl ?_
  refine v_dup C eX12_put_31 rfl ?_
  refine n_get C I fX12_180_X12 eX12_put_32 (hN 49 (by decide)) rfl rfl ?_
  refine v_iconst (v := (1 : Int32)) C eX12_put_35 (by decide) ?_
  refine v_iadd C eX12_put_36 ?_
  refine v_natT (show (nI fl) + ((1 : Int32)) = nI (fl + 1) from (ix_add (a := fl) (b := 1) (rfl : nI fl = nI fl) (rfl : (1 : Int32) = nI 1))) ?_
  refine n_put (fs' := mO ad (upd (upd (upd x 18 (nI 12)) 19 (nI (rateK 12))) 20 (nI (fl + 1))) tt) C I fX12_180_X12p eX12_put_37 (hN 49 (by decide)) rfl rfl rfl (Nat.le_of_ble_eq_true rfl) rfl ?_
  refine v_aload_n C eX12_put_40 rfl 0 rfl ?_
  refine v_dup C eX12_put_41 rfl ?_
  refine n_get C I fX12_183_X12 eX12_put_42 (hN 49 (by decide)) rfl rfl ?_
  refine v_lconst (v := (1 : Int64)) C eX12_put_45 (by decide) ?_
  refine v_ladd C eX12_put_46 ?_
  refine n_put (fs' := mO ad (upd (upd (upd x 18 (nI 12)) 19 (nI (rateK 12))) 20 (nI (fl + 1))) (tt + ((1 : Int64)))) C I fX12_183_X12p eX12_put_47 (hN 49 (by decide)) rfl rfl rfl (Nat.le_of_ble_eq_true rfl) rfl ?_
  refine v_aload_n C eX12_put_50 rfl 0 rfl ?_
  refine n_get C I fX12_180_X12 eX12_put_51 (hN 49 (by decide)) rfl rfl ?_
  refine v_aload_n C eX12_put_54 rfl 0 rfl ?_
  refine n_get C I fX12_193_X12 eX12_put_55 (hN 49 (by decide)) rfl rfl ?_
  refine v_icmp_ne (tgt := 100) C eX12_put_58 (by decide) (fun c1 => ?_) (fun c1 => ?_)
  · refine v_eq (w' := nW ad N (va_up (va_up (va_up (va_up (va_up (va_up σ 13 (eJ G 25 (sp1 S fl v))) 14 (eJ G 25 O)) 15 (eJ G 5 D)) 16 (eJ G 80 W)) 17 (eB G 128 Bk)) 49 (eO 9 (mO ad (upd (upd (upd x 18 (nI 12)) 19 (nI (rateK 12))) 20 (nI (fl + 1))) (tt + ((1 : Int64))))))) (congrArg (nW ad N) (n_extL [13, 14, 15, 16, 17, 49] ⟨rfl, rfl, rfl, rfl, rfl, rfl, trivial⟩ (fun q h => by simp only [List.mem_cons, List.not_mem_nil, or_false, not_or] at h; simp [va_up, h]))) rfl rfl ?_
    exact n_vret C rfl eX12_put_100 ⟨rfl, by rw [hPut, if_neg (fun q : fl + 1 = rateK 12 => c1 (congrArg nI q))]; rfl⟩
  · refine v_aload_n C eX12_put_61 rfl 0 rfl ?_
    refine n_callV (As := []) (rest := []) C I mX12_198 (c_sponge I hN rfl) (hN 49 (by decide)) rfl rfl (by omega) (by decide) ⟨by decide, by decide⟩ rfl rfl (Nat.le_of_ble_eq_true rfl) eX12_put_62 (fun r σ' hp => ?_)
    obtain ⟨rfl, rfl⟩ := hp
    refine v_if_eq (tgt := 75) C eX12_put_65 (by decide) (fun h => absurd h (show ¬ (if nI 12 ≤ (6 : Int32) then (0 : Int32) else 1) = 0 from by decide +kernel)) (fun _ => ?_)
    refine v_aload_n C eX12_put_68 rfl 0 rfl ?_
    refine n_callV (As := []) (rest := []) C I mX12_206 (c_permute I hN rfl rfl rfl rfl h11 h12) (hN 49 (by decide)) rfl rfl (by omega) (by decide) ⟨by decide, by decide⟩ rfl rfl (Nat.le_of_ble_eq_true rfl) eX12_put_69 (fun r σ' hp => ?_)
    obtain ⟨rfl, rfl⟩ := hp
    refine v_goto (tgt := 95) C eX12_put_72 (by decide) ?_
    refine v_aload_n C eX12_put_95 rfl 0 rfl ?_
    refine v_iconst (v := nI 0) C eX12_put_96 (by decide) ?_
    refine n_put (fs' := mO ad (upd (upd (upd x 18 (nI 12)) 19 (nI (rateK 12))) 20 (nI 0)) (tt + ((1 : Int64)))) C I fX12_180_X12p eX12_put_97 (hN 49 (by decide)) rfl rfl rfl (Nat.le_of_ble_eq_true rfl) rfl ?_
    refine v_eq (w' := nW ad N (va_up (va_up (va_up (va_up (va_up (va_up σ 13 (eJ G 25 ((itN (pmR T Rc) 24 (sp1 S fl v, O, D)).1))) 14 (eJ G 25 ((itN (pmR T Rc) 24 (sp1 S fl v, O, D)).2.1))) 15 (eJ G 5 ((itN (pmR T Rc) 24 (sp1 S fl v, O, D)).2.2))) 16 (eJ G 80 W)) 17 (eB G 128 Bk)) 49 (eO 9 (mO ad (upd (upd (upd x 18 (nI 12)) 19 (nI (rateK 12))) 20 (nI 0)) (tt + ((1 : Int64))))))) (congrArg (nW ad N) (n_extL [13, 14, 15, 16, 17, 49] ⟨rfl, rfl, rfl, rfl, rfl, rfl, trivial⟩ (fun q h => by simp only [List.mem_cons, List.not_mem_nil, or_false, not_or] at h; simp [va_up, h]))) rfl rfl ?_
    have hq : fl + 1 = rateK 12 := (nI_eq (by omega) (by decide)).mp c1
    exact n_vret C rfl eX12_put_100 ⟨rfl, by rw [hPut, if_pos hq]; rfl⟩

end M4
