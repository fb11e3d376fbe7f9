theorem eX12_finish_0 : vD cX12_finish 0 (.aload_n 0) 1 1 := ⟨by decide +kernel, rfl⟩
theorem eX12_finish_1 : vD cX12_finish 1 (.invokevirtual 198) 3 4 := ⟨by decide +kernel, rfl⟩
theorem eX12_finish_4 : vD cX12_finish 4 (.ifCond .eq 50) 3 7 := ⟨by decide +kernel, rfl⟩
theorem eX12_finish_7 : vD cX12_finish 7 (.aload_n 0) 1 8 := ⟨by decide +kernel, rfl⟩
theorem eX12_finish_8 : vD cX12_finish 8 (.aload_n 0) 1 9 := ⟨by decide +kernel, rfl⟩
theorem eX12_finish_9 : vD cX12_finish 9 (.getfield 180) 3 12 := ⟨by decide +kernel, rfl⟩
theorem eX12_finish_12 : vD cX12_finish 12 (.aload_n 0) 1 13 := ⟨by decide +kernel, rfl⟩
theorem eX12_finish_13 : vD cX12_finish 13 (.getfield 177) 3 16 := ⟨by decide +kernel, rfl⟩
theorem eX12_finish_16 : vD cX12_finish 16 (.bipush 10) 2 18 := ⟨by decide +kernel, rfl⟩
theorem eX12_finish_18 : vD cX12_finish 18 (.if_icmp .le 8) 3 21 := ⟨by decide +kernel, rfl⟩
theorem eX12_finish_21 : vD cX12_finish 21 (.bipush 31) 2 23 := ⟨by decide +kernel, rfl⟩
theorem eX12_finish_23 : vD cX12_finish 23 (.goto 5) 3 26 := ⟨by decide +kernel, rfl⟩
theorem eX12_finish_26 : vD cX12_finish 26 (.bipush 6) 2 28 := ⟨by decide +kernel, rfl⟩
theorem eX12_finish_28 : vD cX12_finish 28 (.invokevirtual 202) 3 31 := ⟨by decide +kernel, rfl⟩
theorem eX12_finish_31 : vD cX12_finish 31 (.aload_n 0) 1 32 := ⟨by decide +kernel, rfl⟩
theorem eX12_finish_32 : vD cX12_finish 32 (.aload_n 0) 1 33 := ⟨by decide +kernel, rfl⟩
theorem eX12_finish_33 : vD cX12_finish 33 (.getfield 193) 3 36 := ⟨by decide +kernel, rfl⟩
theorem eX12_finish_36 : vD cX12_finish 36 (.iconst 1) 1 37 := ⟨by decide +kernel, rfl⟩
theorem eX12_finish_37 : vD cX12_finish 37 .isub 1 38 := ⟨by decide +kernel, rfl⟩
theorem eX12_finish_38 : vD cX12_finish 38 (.sipush 128) 3 41 := ⟨by decide +kernel, rfl⟩
theorem eX12_finish_41 : vD cX12_finish 41 (.invokevirtual 202) 3 44 := ⟨by decide +kernel, rfl⟩
theorem eX12_finish_44 : vD cX12_finish 44 (.aload_n 0) 1 45 := ⟨by decide +kernel, rfl⟩
theorem eX12_finish_45 : vD cX12_finish 45 (.invokevirtual 206) 3 48 := ⟨by decide +kernel, rfl⟩
theorem eX12_finish_48 : vD cX12_finish 48 (.aload_n 0) 1 49 := ⟨by decide +kernel, rfl⟩
theorem eX12_finish_49 : vD cX12_finish 49 (.iconst 0) 1 50 := ⟨by decide +kernel, rfl⟩
theorem eX12_finish_50 : vD cX12_finish 50 (.putfield 180) 3 53 := ⟨by decide +kernel, rfl⟩
theorem eX12_finish_53 : vD cX12_finish 53 .return_ 1 54 := ⟨by decide +kernel, rfl⟩
theorem eX12_finish_54 : vD cX12_finish 54 (.ldc2_w 227) 3 57 := ⟨by decide +kernel, rfl⟩
theorem eX12_finish_57 : vD cX12_finish 57 (.aload_n 0) 1 58 := ⟨by decide +kernel, rfl⟩
theorem eX12_finish_58 : vD cX12_finish 58 (.getfield 183) 3 61 := ⟨by decide +kernel, rfl⟩
theorem eX12_finish_61 : vD cX12_finish 61 .lmul 1 62 := ⟨by decide +kernel, rfl⟩
theorem eX12_finish_62 : vD cX12_finish 62 (.lstore_n 1) 1 63 := ⟨by decide +kernel, rfl⟩
theorem eX12_finish_63 : vD cX12_finish 63 (.aload_n 0) 1 64 := ⟨by decide +kernel, rfl⟩
theorem eX12_finish_64 : vD cX12_finish 64 (.sipush 128) 3 67 := ⟨by decide +kernel, rfl⟩
theorem eX12_finish_67 : vD cX12_finish 67 (.invokevirtual 171) 3 70 := ⟨by decide +kernel, rfl⟩
theorem eX12_finish_70 : vD cX12_finish 70 (.aload_n 0) 1 71 := ⟨by decide +kernel, rfl⟩
theorem eX12_finish_71 : vD cX12_finish 71 (.getfield 180) 3 74 := ⟨by decide +kernel, rfl⟩
theorem eX12_finish_74 : vD cX12_finish 74 (.aload_n 0) 1 75 := ⟨by decide +kernel, rfl⟩
theorem eX12_finish_75 : vD cX12_finish 75 (.getfield 193) 3 78 := ⟨by decide +kernel, rfl⟩
theorem eX12_finish_78 : vD cX12_finish 78 (.aload_n 0) 1 79 := ⟨by decide +kernel, rfl⟩
theorem eX12_finish_79 : vD cX12_finish 79 (.getfield 193) 3 82 := ⟨by decide +kernel, rfl⟩
theorem eX12_finish_82 : vD cX12_finish 82 (.bipush 8) 2 84 := ⟨by decide +kernel, rfl⟩
theorem eX12_finish_84 : vD cX12_finish 84 .idiv 1 85 := ⟨by decide +kernel, rfl⟩
theorem eX12_finish_85 : vD cX12_finish 85 .isub 1 86 := ⟨by decide +kernel, rfl⟩
theorem eX12_finish_86 : vD cX12_finish 86 (.if_icmp .eq 11) 3 89 := ⟨by decide +kernel, rfl⟩
theorem eX12_finish_89 : vD cX12_finish 89 (.aload_n 0) 1 90 := ⟨by decide +kernel, rfl⟩
theorem eX12_finish_90 : vD cX12_finish 90 (.iconst 0) 1 91 := ⟨by decide +kernel, rfl⟩
theorem eX12_finish_91 : vD cX12_finish 91 (.invokevirtual 171) 3 94 := ⟨by decide +kernel, rfl⟩
theorem eX12_finish_94 : vD cX12_finish 94 (.goto (-24)) 3 97 := ⟨by decide +kernel, rfl⟩
theorem eX12_finish_97 : vD cX12_finish 97 (.aload_n 0) 1 98 := ⟨by decide +kernel, rfl⟩
theorem eX12_finish_98 : vD cX12_finish 98 (.getfield 193) 3 101 := ⟨by decide +kernel, rfl⟩
theorem eX12_finish_101 : vD cX12_finish 101 (.bipush 8) 2 103 := ⟨by decide +kernel, rfl⟩
theorem eX12_finish_103 : vD cX12_finish 103 .idiv 1 104 := ⟨by decide +kernel, rfl⟩
theorem eX12_finish_104 : vD cX12_finish 104 (.iconst 1) 1 105 := ⟨by decide +kernel, rfl⟩
theorem eX12_finish_105 : vD cX12_finish 105 .isub 1 106 := ⟨by decide +kernel, rfl⟩
theorem eX12_finish_106 : vD cX12_finish 106 (.istore_n 3) 1 107 := ⟨by decide +kernel, rfl⟩
theorem eX12_finish_107 : vD cX12_finish 107 (.iload_n 3) 1 108 := ⟨by decide +kernel, rfl⟩
theorem eX12_finish_108 : vD cX12_finish 108 (.ifCond .lt 30) 3 111 := ⟨by decide +kernel, rfl⟩
theorem eX12_finish_111 : vD cX12_finish 111 (.aload_n 0) 1 112 := ⟨by decide +kernel, rfl⟩
theorem eX12_finish_112 : vD cX12_finish 112 (.iload_n 3) 1 113 := ⟨by decide +kernel, rfl⟩
theorem eX12_finish_113 : vD cX12_finish 113 (.bipush 8) 2 115 := ⟨by decide +kernel, rfl⟩
theorem eX12_finish_115 : vD cX12_finish 115 (.if_icmp .ge 13) 3 118 := ⟨by decide +kernel, rfl⟩
theorem eX12_finish_118 : vD cX12_finish 118 (.lload_n 1) 1 119 := ⟨by decide +kernel, rfl⟩
theorem eX12_finish_119 : vD cX12_finish 119 (.bipush 8) 2 121 := ⟨by decide +kernel, rfl⟩
theorem eX12_finish_121 : vD cX12_finish 121 (.iload_n 3) 1 122 := ⟨by decide +kernel, rfl⟩
theorem eX12_finish_122 : vD cX12_finish 122 .imul 1 123 := ⟨by decide +kernel, rfl⟩
theorem eX12_finish_123 : vD cX12_finish 123 .lushr 1 124 := ⟨by decide +kernel, rfl⟩
theorem eX12_finish_124 : vD cX12_finish 124 .l2i 1 125 := ⟨by decide +kernel, rfl⟩
theorem eX12_finish_125 : vD cX12_finish 125 (.goto 4) 3 128 := ⟨by decide +kernel, rfl⟩
theorem eX12_finish_128 : vD cX12_finish 128 (.iconst 0) 1 129 := ⟨by decide +kernel, rfl⟩
theorem eX12_finish_129 : vD cX12_finish 129 (.invokevirtual 171) 3 132 := ⟨by decide +kernel, rfl⟩
theorem eX12_finish_132 : vD cX12_finish 132 (.iinc 3 (-1)) 3 135 := ⟨by decide +kernel, rfl⟩
theorem eX12_finish_135 : vD cX12_finish 135 (.goto (-28)) 3 138 := ⟨by decide +kernel, rfl⟩
theorem eX12_finish_138 : vD cX12_finish 138 .return_ 1 139 := ⟨by decide +kernel, rfl⟩

def hZero (T : Nat → Int32) (Rc K : Nat → Int64) (k n : Nat) (h : hT) : hT := itN (fun _ h => hPut T Rc K k 0 h) n h
/-- the byte i of the length's bits -/
def lenB (b : Int64) (i : Nat) : Int32 := if i < 8 then (us64 b ((8 : Int32) * nI i)).toInt32 else 0
def hLen (T : Nat → Int32) (Rc K : Nat → Int64) (k r : Nat) (b : Int64) (n : Nat) (h : hT) : hT := itN (fun j h => hPut T Rc K k (lenB b (r - 1 - j)) h) n h
theorem ix_m1 : Int32.ofInt (-1) = (-1 : Int32) := by decide
def padZ (k f : Nat) : Nat := (rateK k - rateK k / 8 + rateK k - f) % rateK k
def hFin (T : Nat → Int32) (Rc K : Nat → Int64) (k : Nat) (h : hT) : hT :=
  if k = 12 then (match h with
    | (S, O, D, W, Bk, f, t) => ((itN (pmR T Rc) 24 (sp1 (sp1 S f 31) 135 128, O, D)).1, (itN (pmR T Rc) 24 (sp1 (sp1 S f 31) 135 128, O, D)).2.1, (itN (pmR T Rc) 24 (sp1 (sp1 S f 31) 135 128, O, D)).2.2, W, Bk, 0, t))
  else hLen T Rc K k (rateK k / 8) (8 * h.2.2.2.2.2.2) (rateK k / 8) (hZero T Rc K k (padZ k (hPut T Rc K k 128 h).2.2.2.2.2.1) (hPut T Rc K k 128 h))
theorem hPut_fill {T : Nat → Int32} {Rc K : Nat → Int64} {k : Nat} (hk : k = 1 ∨ k = 3 ∨ k = 12) (v : Int32) (h : hT) (hf : h.2.2.2.2.2.1 < rateK k) : (hPut T Rc K k v h).2.2.2.2.2.1 = (h.2.2.2.2.2.1 + 1) % rateK k := by
  obtain ⟨S, O, D, W, Bk, f, t⟩ := h
  have h1 : (hPut1 k v (S, O, D, W, Bk, f, t)).2.2.2.2.2.1 = f + 1 := by unfold hPut1; by_cases q : k = 12 <;> simp [q]
  have hf : f < rateK k := hf
  show _ = (f + 1) % rateK k
  unfold hPut
  by_cases q : f + 1 = rateK k
  · rw [if_pos q, q, Nat.mod_self]
    generalize hPut1 k v (S, O, D, W, Bk, f, t) = g
    obtain ⟨S, O, D, W, Bk, f, t⟩ := g
    unfold hBlk
    by_cases q1 : k = 12
    · simp [q1]
    · by_cases q2 : k = 1
      · simp [q2]
      · simp [q1, q2]
  · rw [if_neg q, h1, Nat.mod_eq_of_lt (by omega)]
theorem hZero_fill {T : Nat → Int32} {Rc K : Nat → Int64} {k : Nat} (hk : k = 1 ∨ k = 3 ∨ k = 12) (h : hT) (hf : h.2.2.2.2.2.1 < rateK k) : ∀ n, (hZero T Rc K k n h).2.2.2.2.2.1 = (h.2.2.2.2.2.1 + n) % rateK k
  | 0 => (Nat.mod_eq_of_lt hf).symm
  | n + 1 => by
    have ih := hZero_fill (T := T) (Rc := Rc) (K := K) hk h hf n
    have hp := rateK_pos hk
    have hl : (hZero T Rc K k n h).2.2.2.2.2.1 < rateK k := by rw [ih]; exact Nat.mod_lt _ (by omega)
    show (hPut T Rc K k 0 (hZero T Rc K k n h)).2.2.2.2.2.1 = _
    rw [hPut_fill hk 0 _ hl, ih, Nat.mod_add_mod]
    rfl
theorem hLen_lt {T : Nat → Int32} {Rc K : Nat → Int64} {k : Nat} (hk : k = 1 ∨ k = 3 ∨ k = 12) (r : Nat) (b : Int64) (h : hT) (hf : h.2.2.2.2.2.1 < rateK k) : ∀ n, (hLen T Rc K k r b n h).2.2.2.2.2.1 < rateK k
  | 0 => hf
  | n + 1 => hPut_lt hk _ _ (hLen_lt hk r b h hf n)
section M6
variable {G : vG} {B : Nat} {l : Launch} {ad : Nat → Nat} {N : Nat}
set_option maxRecDepth 100000 in
set_option maxHeartbeats 4000000 in
theorem c_finish12 (I : nI1 ad N) (hN : ∀ k, k < 74 → k < N) {σ : nS} {x T : Nat → Int32} {Rc K : Nat → Int64} (h11 : σ 11 = eI G 25 T) (h12 : σ 12 = eJ G 24 Rc) (h6 : σ 6 = eJ G 80 K) (S O D W : Nat → Int64) (Bk : Nat → Int32) (fl : Nat) (tt : Int64) (hf : fl < 136) : nOk G B l ad N yX12_finish cX12_finish 4 none 2 0 0 [.ref (ad 49)] (hσ G ad σ x 12 (S, O, D, W, Bk, fl, tt)) (fun r σ' => r = none ∧ σ' = hσ G ad σ x 12 (hFin T Rc K 12 (S, O, D, W, Bk, fl, tt))) := by
  refine vOk.of (by decide +kernel) (Nat.le_of_ble_eq_true rfl) ?_
  intro p e s m args below meth c C
  refine v_eq (lv' := [(0, .ref (ad 49))]) rfl rfl rfl ?_
  refine v_eq (w' := nW ad N (va_up (va_up (va_up (va_up (va_up (va_up σ 13 (eJ G 25 S)) 14 (eJ G 25 O)) 15 (eJ G 5 D)) 16 (eJ G 80 W)) 17 (eB G 128 Bk)) 49 (eO 9 (mO ad (upd (upd (upd x 18 (nI 12)) 19 (nI (rateK 12))) 20 (nI fl)) tt)))) rfl rfl rfl ?_
  refine v_aload_n C eX12_finish_0 rfl 0 rfl ?_
  refine n_callV (As := []) (rest := []) C I mX12_198 (c_sponge I hN rfl) (hN 49 (by decide)) rfl rfl (by omega) (by decide) ⟨by decide, by decide⟩ rfl rfl (Nat.le_of_ble_eq_true rfl) eX12_finish_1 (fun r σ' hp => ?_)
  obtain ⟨rfl, rfl⟩ := hp
  refine v_if_eq (tgt := 54) C eX12_finish_4 (by decide) (fun h => absurd h (show ¬ (if nI 12 ≤ (6 : Int32) then (0 : Int32) else 1) = 0 from by decide +kernel)) (fun _ => ?_)
  refine v_aload_n C eX12_finish_7 rfl 0 rfl ?_
  refine v_aload_n C eX12_finish_8 rfl 0 rfl ?_
  refine n_get C I fX12_180_X12 eX12_finish_9 (hN 49 (by decide)) rfl rfl ?_
  refine v_aload_n C eX12_finish_12 rfl 0 rfl ?_
  refine n_get C I fX12_177_X12 eX12_finish_13 (hN 49 (by decide)) rfl rfl ?_
  refine v_bipush (v := (10 : Int32)) C eX12_finish_16 (by decide) ?_
  refine v_icmp_le (tgt := 26) C eX12_finish_18 (by decide) (fun h => absurd h (ix_nle (a := 12) (b := 10) (rfl : nI 12 = nI 12) (rfl : (10 : Int32) = nI 10) (by omega) (by omega) (by omega))) (fun _ => ?_)
  refine v_bipush (v := (31 : Int32)) C eX12_finish_21 (by decide) ?_
  refine v_goto (tgt := 28) C eX12_finish_23 (by decide) ?_
  refine n_callV (As := [.int (nI fl), .int ((31 : Int32))]) (rest := []) C I mX12_202 (c_flip I hN rfl rfl fl 31 (by omega)) (hN 49 (by decide)) rfl rfl (by omega) (by decide) ⟨by decide, by decide⟩ rfl rfl (Nat.le_of_ble_eq_true rfl) eX12_finish_28 (fun r σ' hp => ?_)
  obtain ⟨rfl, rfl⟩ := hp
  refine v_aload_n C eX12_finish_31 rfl 0 rfl ?_
  refine v_aload_n C eX12_finish_32 rfl 0 rfl ?_
  refine n_get C I fX12_193_X12 eX12_finish_33 (hN 49 (by decide)) rfl rfl ?_
  refine v_iconst (v := (1 : Int32)) C eX12_finish_36 (by decide) ?_
  refine v_isub C eX12_finish_37 ?_
  refine v_natT (show (nI (rateK 12)) - ((1 : Int32)) = nI (136 - 1) from (ix_sub (a := 136) (b := 1) (rfl : nI (rateK 12) = nI 136) (rfl : (1 : Int32) = nI 1) (by omega))) ?_
  refine v_sipush (v := (128 : Int32)) C eX12_finish_38 (by decide) ?_
  refine n_callV (As := [.int (nI (136 - 1)), .int ((128 : Int32))]) (rest := []) C I mX12_202 (c_flip I hN rfl rfl 135 128 (by decide)) (hN 49 (by decide)) rfl rfl (by omega) (by decide) ⟨by decide, by decide⟩ rfl rfl (Nat.le_of_ble_eq_true rfl) eX12_finish_41 (fun r σ' hp => ?_)
  obtain ⟨rfl, rfl⟩ := hp
  refine v_aload_n C eX12_finish_44 rfl 0 rfl ?_
  refine n_callV (As := []) (rest := []) C I mX12_206 (c_permute I hN rfl rfl rfl rfl h11 h12) (hN 49 (by decide)) rfl rfl (by omega) (by decide) ⟨by decide, by decide⟩ rfl rfl (Nat.le_of_ble_eq_true rfl) eX12_finish_45 (fun r σ' hp => ?_)
  obtain ⟨rfl, rfl⟩ := hp
  refine v_aload_n C eX12_finish_48 rfl 0 rfl ?_
  refine v_iconst (v := nI 0) C eX12_finish_49 (by decide) ?_
  refine n_put (fs' := mO ad (upd (upd (upd x 18 (nI 12)) 19 (nI (rateK 12))) 20 (nI 0)) tt) C I fX12_180_X12p eX12_finish_50 (hN 49 (by decide)) rfl rfl rfl (Nat.le_of_ble_eq_true rfl) rfl ?_
  refine v_eq (w' := nW ad N (va_up (va_up (va_up (va_up (va_up (va_up σ 13 (eJ G 25 ((itN (pmR T Rc) 24 (sp1 (sp1 S fl 31) 135 128, O, D)).1))) 14 (eJ G 25 ((itN (pmR T Rc) 24 (sp1 (sp1 S fl 31) 135 128, O, D)).2.1))) 15 (eJ G 5 ((itN (pmR T Rc) 24 (sp1 (sp1 S fl 31) 135 128, O, D)).2.2))) 16 (eJ G 80 W)) 17 (eB G 128 Bk)) 49 (eO 9 (mO ad (upd (upd (upd x 18 (nI 12)) 19 (nI (rateK 12))) 20 (nI 0)) tt)))) (congrArg (nW ad N) (n_extL [13, 14, 15, 16, 17, 49] ⟨rfl, rfl, rfl, rfl, rfl, rfl, trivial⟩ (fun q h => by simp only [List.mem_cons, List.not_mem_nil, or_false, not_or] at h; simp [va_up, h]))) rfl rfl ?_
  exact n_vret C rfl eX12_finish_53 ⟨rfl, rfl⟩

set_option maxRecDepth 100000 in
set_option maxHeartbeats 4000000 in
theorem c_finish1 (I : nI1 ad N) (hN : ∀ k, k < 74 → k < N) {σ : nS} {x T : Nat → Int32} {Rc K : Nat → Int64} (h11 : σ 11 = eI G 25 T) (h12 : σ 12 = eJ G 24 Rc) (h6 : σ 6 = eJ G 80 K) (h : hT) (hf : h.2.2.2.2.2.1 < rateK 1) : nOk G B l ad N yX12_finish cX12_finish 4 none 3 0 0 [.ref (ad 49)] (hσ G ad σ x 1 h) (fun r σ' => r = none ∧ σ' = hσ G ad σ x 1 (hFin T Rc K 1 h)) := by
  refine vOk.of (by decide +kernel) (Nat.le_of_ble_eq_true rfl) ?_
  intro p e s m args below meth c C
  have hk : 1 = 1 ∨ 1 = 3 ∨ 1 = 12 := by decide
  refine v_eq (lv' := [(0, .ref (ad 49))]) rfl rfl rfl ?_
  refine v_aload_n C eX12_finish_0 rfl 0 rfl ?_
  refine n_callV (As := []) (rest := []) C I mX12_198 (c_sponge I hN rfl) (hN 49 (by decide)) rfl rfl (by omega) (by decide) ⟨by decide, by decide⟩ rfl rfl (Nat.le_of_ble_eq_true rfl) eX12_finish_1 (fun r σ' hp => ?_)
  obtain ⟨rfl, rfl⟩ := hp
  refine v_if_eq (tgt := 54) C eX12_finish_4 (by decide) (fun _ => ?_) (fun h => absurd (show (if nI 1 ≤ (6 : Int32) then (0 : Int32) else 1) = 0 from by decide +kernel) h)
  refine v_ldc2 (v := (8 : Int64)) C eX12_finish_54 vw_1173 ?_
  refine v_aload_n C eX12_finish_57 rfl 0 rfl ?_
  refine n_get C I fX12_183_X12 eX12_finish_58 (hN 49 (by decide)) rfl rfl ?_
  refine v_lmul C eX12_finish_61 ?_
  refine v_lstore_n (lv' := [(0, .ref (ad 49)), (1, .long (((8 : Int64)) * h.2.2.2.2.2.2))]) C eX12_finish_62 rfl (by decide) [1, 0] rfl ?_
  refine v_aload_n C eX12_finish_63 rfl 0 rfl ?_
  refine v_sipush (v := (128 : Int32)) C eX12_finish_64 (by decide) ?_
  refine n_callV (As := [.int ((128 : Int32))]) (rest := []) C I mX12_171 (c_put I hN h11 h12 h6 hk h hf 128) (hN 49 (by decide)) rfl rfl (by decide) (by decide) ⟨by decide, by decide⟩ rfl rfl (Nat.le_of_ble_eq_true rfl) eX12_finish_67 (fun r σ' hp => ?_)
  obtain ⟨rfl, rfl⟩ := hp
  have hf1 := hPut_lt (T := T) (Rc := Rc) (K := K) hk 128 h hf
  generalize hg : hPut T Rc K 1 128 h = g at hf1
  have hR : rateK 1 = 64 := rfl
  have hz := fun n => hZero_fill (T := T) (Rc := Rc) (K := K) hk g hf1 n
  refine v_forV (fun i => hσ G ad σ x 1 (hZero T Rc K 1 i g)) (fun _ => [(0, .ref (ad 49)), (1, .long (((8 : Int64)) * h.2.2.2.2.2.2))]) (padZ 1 g.2.2.2.2.2.1) ?_ ?_
  · have hzi := hz (padZ 1 g.2.2.2.2.2.1)
    have hlt : (g.2.2.2.2.2.1 + (padZ 1 g.2.2.2.2.2.1)) % 64 < 64 := Nat.mod_lt _ (by decide)
    have hpz : (g.2.2.2.2.2.1 + (padZ 1 g.2.2.2.2.2.1)) % 64 = 56 := by show (g.2.2.2.2.2.1 + (64 - 64 / 8 + 64 - g.2.2.2.2.2.1) % 64) % 64 = 56; have : g.2.2.2.2.2.1 < 64 := hf1; omega
    rw [hR] at hzi
    refine v_aload_n C eX12_finish_70 rfl 0 rfl ?_
    refine n_get C I fX12_180_X12 eX12_finish_71 (hN 49 (by decide)) rfl rfl ?_
    refine v_aload_n C eX12_finish_74 rfl 0 rfl ?_
    refine n_get C I fX12_193_X12 eX12_finish_75 (hN 49 (by decide)) rfl rfl ?_
    refine v_aload_n C eX12_finish_78 rfl 0 rfl ?_
    refine n_get C I fX12_193_X12 eX12_finish_79 (hN 49 (by decide)) rfl rfl ?_
    refine v_bipush (v := (8 : Int32)) C eX12_finish_82 (by decide) ?_
    refine v_idiv C eX12_finish_84 (by decide) ?_
    refine v_isub C eX12_finish_85 ?_
    refine v_icmp_eq (tgt := 97) C eX12_finish_86 (by decide) (fun _ => ?_) (fun h => absurd (ix_eq (a := (hZero T Rc K 1 (padZ 1 g.2.2.2.2.2.1) g).2.2.2.2.2.1) (b := 64 - (64 / 8)) (rfl : nI (hZero T Rc K 1 (padZ 1 g.2.2.2.2.2.1) g).2.2.2.2.2.1 = nI (hZero T Rc K 1 (padZ 1 g.2.2.2.2.2.1) g).2.2.2.2.2.1) (ix_sub (a := 64) (b := 64 / 8) (rfl : nI (rateK 1) = nI 64) (ix_div (a := 64) (d := 8) (rfl : nI (rateK 1) = nI 64) (rfl : (8 : Int32) = nI 8) (by omega) (by omega) (by omega)) (by omega)) (by omega) (by omega) (by omega)) h)
    have hfz : (hZero T Rc K 1 (padZ 1 g.2.2.2.2.2.1) g).2.2.2.2.2.1 < rateK 1 := by rw [hz]; exact Nat.mod_lt _ (by decide)
    refine v_aload_n C eX12_finish_97 rfl 0 rfl ?_
    refine n_get C I fX12_193_X12 eX12_finish_98 (hN 49 (by decide)) rfl rfl ?_
    refine v_bipush (v := (8 : Int32)) C eX12_finish_101 (by decide) ?_
    refine v_idiv C eX12_finish_103 (by decide) ?_
    refine v_iconst (v := (1 : Int32)) C eX12_finish_104 (by decide) ?_
    refine v_isub C eX12_finish_105 ?_
    refine v_natT (show ((nI (rateK 1)) / ((8 : Int32))) - ((1 : Int32)) = nI ((64 / 8) - 1) from (ix_sub (a := 64 / 8) (b := 1) (ix_div (a := 64) (d := 8) (rfl : nI (rateK 1) = nI 64) (rfl : (8 : Int32) = nI 8) (by omega) (by omega) (by omega)) (rfl : (1 : Int32) = nI 1) (by omega))) ?_
    refine v_eq (st' := [.int (nI (8 - 0) + (-1))]) rfl rfl rfl ?_
    refine v_istore_n (lv' := [(0, .ref (ad 49)), (1, .long (((8 : Int64)) * h.2.2.2.2.2.2)), (3, .int (nI (8 - 0) + (-1)))]) C eX12_finish_106 rfl (by decide) [1, 2, 0] rfl ?_
    generalize hg2 : (hZero T Rc K 1 (padZ 1 g.2.2.2.2.2.1) g) = g2 at hfz ⊢
    refine v_forV (fun j => hσ G ad σ x 1 (hLen T Rc K 1 8 (((8 : Int64)) * h.2.2.2.2.2.2) j g2)) (fun j => [(0, .ref (ad 49)), (1, .long (((8 : Int64)) * h.2.2.2.2.2.2)), (3, .int (nI (8 - j) + (-1)))]) 8 ?_ ?_
    · refine v_iload_n C eX12_finish_107 rfl 2 rfl ?_
      refine v_if_lt (tgt := 138) C eX12_finish_108 (by decide) (fun _ => ?_) (fun h => absurd (by decide) h)
      exact n_vret C rfl eX12_finish_138 ⟨rfl, by rw [← hg2, ← hg, hFin, if_neg (by decide), show rateK 1 / 8 = 8 from rfl]⟩
    · intro j hj ih
      have hm : nI (8 - j) + (-1) = nI (8 - 1 - j) := by rw [show 8 - j = (8 - 1 - j) + 1 by omega]; exact pk_m1 _
      refine v_iload_n C eX12_finish_107 rfl 2 rfl ?_
      refine v_if_lt (tgt := 138) C eX12_finish_108 (by decide) (fun h => absurd h (by rw [hm]; exact nI_pos (by omega))) (fun _ => ?_)
      refine v_aload_n C eX12_finish_111 rfl 0 rfl ?_
      refine v_iload_n C eX12_finish_112 rfl 2 rfl ?_
      refine v_natT hm ?_
      refine v_bipush (v := (8 : Int32)) C eX12_finish_113 (by decide) ?_
      refine v_icmp_ge (tgt := 128) C eX12_finish_115 (by decide) (fun h => absurd h (ix_nle (a := 8) (b := 8 - 1 - j) (rfl : (8 : Int32) = nI 8) (rfl : nI (8 - 1 - j) = nI (8 - 1 - j)) (by omega) (by omega) (by omega))) (fun _ => ?_)
      refine v_lload_n C eX12_finish_118 rfl 1 rfl ?_
      refine v_bipush (v := (8 : Int32)) C eX12_finish_119 (by decide) ?_
      refine v_iload_n C eX12_finish_121 rfl 2 rfl ?_
      refine v_natT hm ?_
      refine v_imul C eX12_finish_122 ?_
      refine v_lushr C eX12_finish_123 ?_
      refine v_l2i C eX12_finish_124 ?_
      refine v_goto (tgt := 129) C eX12_finish_125 (by decide) ?_
      refine v_natT (y := lenB (((8 : Int64)) * h.2.2.2.2.2.2) (8 - 1 - j)) (by rw [lenB, if_pos (by omega)]; rfl) ?_
      refine n_callV (As := [.int (lenB (((8 : Int64)) * h.2.2.2.2.2.2) (8 - 1 - j))]) (rest := []) C I mX12_171 (c_put I hN h11 h12 h6 hk (hLen T Rc K 1 8 (((8 : Int64)) * h.2.2.2.2.2.2) j g2) (hLen_lt hk _ _ g2 hfz j) (lenB (((8 : Int64)) * h.2.2.2.2.2.2) (8 - 1 - j))) (hN 49 (by decide)) rfl rfl (by decide) (by decide) ⟨by decide, by decide⟩ rfl rfl (Nat.le_of_ble_eq_true rfl) eX12_finish_129 (fun r σ' hp => ?_)
      obtain ⟨rfl, rfl⟩ := hp
      refine v_iinc (lv' := [(0, .ref (ad 49)), (1, .long (((8 : Int64)) * h.2.2.2.2.2.2)), (3, .int (nI (8 - (j + 1)) + (-1)))]) C eX12_finish_132 2 rfl (by rw [ix_m1, hm]; exact congrArg (· + (-1 : Int32)) (congrArg nI (by omega : 8 - 1 - j = 8 - (j + 1)))) (by decide) [1, 2, 0] rfl ?_
      refine v_goto (tgt := 107) C eX12_finish_135 (by decide) ?_
      exact ih
  · intro i hi ih
    have hzi := hz i
    have hlt : (g.2.2.2.2.2.1 + i) % 64 < 64 := Nat.mod_lt _ (by decide)
    have hpz : (g.2.2.2.2.2.1 + i) % 64 ≠ 56 := by have h1 : i < (64 - 64 / 8 + 64 - g.2.2.2.2.2.1) % 64 := hi; have : g.2.2.2.2.2.1 < 64 := hf1; omega
    rw [hR] at hzi
    refine v_aload_n C eX12_finish_70 rfl 0 rfl ?_
    refine n_get C I fX12_180_X12 eX12_finish_71 (hN 49 (by decide)) rfl rfl ?_
    refine v_aload_n C eX12_finish_74 rfl 0 rfl ?_
    refine n_get C I fX12_193_X12 eX12_finish_75 (hN 49 (by decide)) rfl rfl ?_
    refine v_aload_n C eX12_finish_78 rfl 0 rfl ?_
    refine n_get C I fX12_193_X12 eX12_finish_79 (hN 49 (by decide)) rfl rfl ?_
    refine v_bipush (v := (8 : Int32)) C eX12_finish_82 (by decide) ?_
    refine v_idiv C eX12_finish_84 (by decide) ?_
    refine v_isub C eX12_finish_85 ?_
    refine v_icmp_eq (tgt := 97) C eX12_finish_86 (by decide) (fun h => absurd h (ix_ne (a := (hZero T Rc K 1 i g).2.2.2.2.2.1) (b := 64 - (64 / 8)) (rfl : nI (hZero T Rc K 1 i g).2.2.2.2.2.1 = nI (hZero T Rc K 1 i g).2.2.2.2.2.1) (ix_sub (a := 64) (b := 64 / 8) (rfl : nI (rateK 1) = nI 64) (ix_div (a := 64) (d := 8) (rfl : nI (rateK 1) = nI 64) (rfl : (8 : Int32) = nI 8) (by omega) (by omega) (by omega)) (by omega)) (by omega) (by omega) (by omega))) (fun _ => ?_)
    refine v_aload_n C eX12_finish_89 rfl 0 rfl ?_
    refine v_iconst (v := (0 : Int32)) C eX12_finish_90 (by decide) ?_
    refine n_callV (As := [.int ((0 : Int32))]) (rest := []) C I mX12_171 (c_put I hN h11 h12 h6 hk (hZero T Rc K 1 i g) (by rw [hz i]; exact Nat.mod_lt _ (by decide)) 0) (hN 49 (by decide)) rfl rfl (by decide) (by decide) ⟨by decide, by decide⟩ rfl rfl (Nat.le_of_ble_eq_true rfl) eX12_finish_91 (fun r σ' hp => ?_)
    obtain ⟨rfl, rfl⟩ := hp
    refine v_goto (tgt := 70) C eX12_finish_94 (by decide) ?_
    exact ih

set_option maxRecDepth 100000 in
set_option maxHeartbeats 4000000 in
theorem c_finish3 (I : nI1 ad N) (hN : ∀ k, k < 74 → k < N) {σ : nS} {x T : Nat → Int32} {Rc K : Nat → Int64} (h11 : σ 11 = eI G 25 T) (h12 : σ 12 = eJ G 24 Rc) (h6 : σ 6 = eJ G 80 K) (h : hT) (hf : h.2.2.2.2.2.1 < rateK 3) : nOk G B l ad N yX12_finish cX12_finish 4 none 3 0 0 [.ref (ad 49)] (hσ G ad σ x 3 h) (fun r σ' => r = none ∧ σ' = hσ G ad σ x 3 (hFin T Rc K 3 h)) := by
  refine vOk.of (by decide +kernel) (Nat.le_of_ble_eq_true rfl) ?_
  intro p e s m args below meth c C
  have hk : 3 = 1 ∨ 3 = 3 ∨ 3 = 12 := by decide
  refine v_eq (lv' := [(0, .ref (ad 49))]) rfl rfl rfl ?_
  refine v_aload_n C eX12_finish_0 rfl 0 rfl ?_
  refine n_callV (As := []) (rest := []) C I mX12_198 (c_sponge I hN rfl) (hN 49 (by decide)) rfl rfl (by omega) (by decide) ⟨by decide, by decide⟩ rfl rfl (Nat.le_of_ble_eq_true rfl) eX12_finish_1 (fun r σ' hp => ?_)
  obtain ⟨rfl, rfl⟩ := hp
  refine v_if_eq (tgt := 54) C eX12_finish_4 (by decide) (fun _ => ?_) (fun h => absurd (show (if nI 3 ≤ (6 : Int32) then (0 : Int32) else 1) = 0 from by decide +kernel) h)
  refine v_ldc2 (v := (8 : Int64)) C eX12_finish_54 vw_1173 ?_
  refine v_aload_n C eX12_finish_57 rfl 0 rfl ?_
  refine n_get C I fX12_183_X12 eX12_finish_58 (hN 49 (by decide)) rfl rfl ?_
  refine v_lmul C eX12_finish_61 ?_
  refine v_lstore_n (lv' := [(0, .ref (ad 49)), (1, .long (((8 : Int64)) * h.2.2.2.2.2.2))]) C eX12_finish_62 rfl (by decide) [1, 0] rfl ?_
  refine v_aload_n C eX12_finish_63 rfl 0 rfl ?_
  refine v_sipush (v := (128 : Int32)) C eX12_finish_64 (by decide) ?_
  refine n_callV (As := [.int ((128 : Int32))]) (rest := []) C I mX12_171 (c_put I hN h11 h12 h6 hk h hf 128) (hN 49 (by decide)) rfl rfl (by decide) (by decide) ⟨by decide, by decide⟩ rfl rfl (Nat.le_of_ble_eq_true rfl) eX12_finish_67 (fun r σ' hp => ?_)
  obtain ⟨rfl, rfl⟩ := hp
  have hf1 := hPut_lt (T := T) (Rc := Rc) (K := K) hk 128 h hf
  generalize hg : hPut T Rc K 3 128 h = g at hf1
  have hR : rateK 3 = 128 := rfl
  have hz := fun n => hZero_fill (T := T) (Rc := Rc) (K := K) hk g hf1 n
  refine v_forV (fun i => hσ G ad σ x 3 (hZero T Rc K 3 i g)) (fun _ => [(0, .ref (ad 49)), (1, .long (((8 : Int64)) * h.2.2.2.2.2.2))]) (padZ 3 g.2.2.2.2.2.1) ?_ ?_
  · have hzi := hz (padZ 3 g.2.2.2.2.2.1)
    have hlt : (g.2.2.2.2.2.1 + (padZ 3 g.2.2.2.2.2.1)) % 128 < 128 := Nat.mod_lt _ (by decide)
    have hpz : (g.2.2.2.2.2.1 + (padZ 3 g.2.2.2.2.2.1)) % 128 = 112 := by show (g.2.2.2.2.2.1 + (128 - 128 / 8 + 128 - g.2.2.2.2.2.1) % 128) % 128 = 112; have : g.2.2.2.2.2.1 < 128 := hf1; omega
    rw [hR] at hzi
    refine v_aload_n C eX12_finish_70 rfl 0 rfl ?_
    refine n_get C I fX12_180_X12 eX12_finish_71 (hN 49 (by decide)) rfl rfl ?_
    refine v_aload_n C eX12_finish_74 rfl 0 rfl ?_
    refine n_get C I fX12_193_X12 eX12_finish_75 (hN 49 (by decide)) rfl rfl ?_
    refine v_aload_n C eX12_finish_78 rfl 0 rfl ?_
    refine n_get C I fX12_193_X12 eX12_finish_79 (hN 49 (by decide)) rfl rfl ?_
    refine v_bipush (v := (8 : Int32)) C eX12_finish_82 (by decide) ?_
    refine v_idiv C eX12_finish_84 (by decide) ?_
    refine v_isub C eX12_finish_85 ?_
    refine v_icmp_eq (tgt := 97) C eX12_finish_86 (by decide) (fun _ => ?_) (fun h => absurd (ix_eq (a := (hZero T Rc K 3 (padZ 3 g.2.2.2.2.2.1) g).2.2.2.2.2.1) (b := 128 - (128 / 8)) (rfl : nI (hZero T Rc K 3 (padZ 3 g.2.2.2.2.2.1) g).2.2.2.2.2.1 = nI (hZero T Rc K 3 (padZ 3 g.2.2.2.2.2.1) g).2.2.2.2.2.1) (ix_sub (a := 128) (b := 128 / 8) (rfl : nI (rateK 3) = nI 128) (ix_div (a := 128) (d := 8) (rfl : nI (rateK 3) = nI 128) (rfl : (8 : Int32) = nI 8) (by omega) (by omega) (by omega)) (by omega)) (by omega) (by omega) (by omega)) h)
    have hfz : (hZero T Rc K 3 (padZ 3 g.2.2.2.2.2.1) g).2.2.2.2.2.1 < rateK 3 := by rw [hz]; exact Nat.mod_lt _ (by decide)
    refine v_aload_n C eX12_finish_97 rfl 0 rfl ?_
    refine n_get C I fX12_193_X12 eX12_finish_98 (hN 49 (by decide)) rfl rfl ?_
    refine v_bipush (v := (8 : Int32)) C eX12_finish_101 (by decide) ?_
    refine v_idiv C eX12_finish_103 (by decide) ?_
    refine v_iconst (v := (1 : Int32)) C eX12_finish_104 (by decide) ?_
    refine v_isub C eX12_finish_105 ?_
    refine v_natT (show ((nI (rateK 3)) / ((8 : Int32))) - ((1 : Int32)) = nI ((128 / 8) - 1) from (ix_sub (a := 128 / 8) (b := 1) (ix_div (a := 128) (d := 8) (rfl : nI (rateK 3) = nI 128) (rfl : (8 : Int32) = nI 8) (by omega) (by omega) (by omega)) (rfl : (1 : Int32) = nI 1) (by omega))) ?_
    refine v_eq (st' := [.int (nI (16 - 0) + (-1))]) rfl rfl rfl ?_
    refine v_istore_n (lv' := [(0, .ref (ad 49)), (1, .long (((8 : Int64)) * h.2.2.2.2.2.2)), (3, .int (nI (16 - 0) + (-1)))]) C eX12_finish_106 rfl (by decide) [1, 2, 0] rfl ?_
    generalize hg2 : (hZero T Rc K 3 (padZ 3 g.2.2.2.2.2.1) g) = g2 at hfz ⊢
    refine v_forV (fun j => hσ G ad σ x 3 (hLen T Rc K 3 16 (((8 : Int64)) * h.2.2.2.2.2.2) j g2)) (fun j => [(0, .ref (ad 49)), (1, .long (((8 : Int64)) * h.2.2.2.2.2.2)), (3, .int (nI (16 - j) + (-1)))]) 16 ?_ ?_
    · refine v_iload_n C eX12_finish_107 rfl 2 rfl ?_
      refine v_if_lt (tgt := 138) C eX12_finish_108 (by decide) (fun _ => ?_) (fun h => absurd (by decide) h)
      exact n_vret C rfl eX12_finish_138 ⟨rfl, by rw [← hg2, ← hg, hFin, if_neg (by decide), show rateK 3 / 8 = 16 from rfl]⟩
    · intro j hj ih
      have hm : nI (16 - j) + (-1) = nI (16 - 1 - j) := by rw [show 16 - j = (16 - 1 - j) + 1 by omega]; exact pk_m1 _
      refine v_iload_n C eX12_finish_107 rfl 2 rfl ?_
      refine v_if_lt (tgt := 138) C eX12_finish_108 (by decide) (fun h => absurd h (by rw [hm]; exact nI_pos (by omega))) (fun _ => ?_)
      refine v_aload_n C eX12_finish_111 rfl 0 rfl ?_
      refine v_iload_n C eX12_finish_112 rfl 2 rfl ?_
      refine v_natT hm ?_
      refine v_bipush (v := (8 : Int32)) C eX12_finish_113 (by decide) ?_
      by_cases hj8 : 8 ≤ 15 - j
      · refine v_icmp_ge (tgt := 128) C eX12_finish_115 (by decide) (fun _ => ?_) (fun h => absurd (ix_le (a := 8) (b := 16 - 1 - j) (rfl : (8 : Int32) = nI 8) (rfl : nI (16 - 1 - j) = nI (16 - 1 - j)) (by omega) (by omega) (by omega)) h)
        refine v_iconst (v := (0 : Int32)) C eX12_finish_128 (by decide) ?_
        refine v_natT (y := lenB (((8 : Int64)) * h.2.2.2.2.2.2) (16 - 1 - j)) (by rw [lenB, if_neg (by omega)]) ?_
        refine n_callV (As := [.int (lenB (((8 : Int64)) * h.2.2.2.2.2.2) (16 - 1 - j))]) (rest := []) C I mX12_171 (c_put I hN h11 h12 h6 hk (hLen T Rc K 3 16 (((8 : Int64)) * h.2.2.2.2.2.2) j g2) (hLen_lt hk _ _ g2 hfz j) (lenB (((8 : Int64)) * h.2.2.2.2.2.2) (16 - 1 - j))) (hN 49 (by decide)) rfl rfl (by decide) (by decide) ⟨by decide, by decide⟩ rfl rfl (Nat.le_of_ble_eq_true rfl) eX12_finish_129 (fun r σ' hp => ?_)
        obtain ⟨rfl, rfl⟩ := hp
        refine v_iinc (lv' := [(0, .ref (ad 49)), (1, .long (((8 : Int64)) * h.2.2.2.2.2.2)), (3, .int (nI (16 - (j + 1)) + (-1)))]) C eX12_finish_132 2 rfl (by rw [ix_m1, hm]; exact congrArg (· + (-1 : Int32)) (congrArg nI (by omega : 16 - 1 - j = 16 - (j + 1)))) (by decide) [1, 2, 0] rfl ?_
        refine v_goto (tgt := 107) C eX12_finish_135 (by decide) ?_
        exact ih
      · refine v_icmp_ge (tgt := 128) C eX12_finish_115 (by decide) (fun h => absurd h (ix_nle (a := 8) (b := 16 - 1 - j) (rfl : (8 : Int32) = nI 8) (rfl : nI (16 - 1 - j) = nI (16 - 1 - j)) (by omega) (by omega) (by omega))) (fun _ => ?_)
        refine v_lload_n C eX12_finish_118 rfl 1 rfl ?_
        refine v_bipush (v := (8 : Int32)) C eX12_finish_119 (by decide) ?_
        refine v_iload_n C eX12_finish_121 rfl 2 rfl ?_
        refine v_natT hm ?_
        refine v_imul C eX12_finish_122 ?_
        refine v_lushr C eX12_finish_123 ?_
        refine v_l2i C eX12_finish_124 ?_
        refine v_goto (tgt := 129) C eX12_finish_125 (by decide) ?_
        refine v_natT (y := lenB (((8 : Int64)) * h.2.2.2.2.2.2) (16 - 1 - j)) (by rw [lenB, if_pos (by omega)]; rfl) ?_
        refine n_callV (As := [.int (lenB (((8 : Int64)) * h.2.2.2.2.2.2) (16 - 1 - j))]) (rest := []) C I mX12_171 (c_put I hN h11 h12 h6 hk (hLen T Rc K 3 16 (((8 : Int64)) * h.2.2.2.2.2.2) j g2) (hLen_lt hk _ _ g2 hfz j) (lenB (((8 : Int64)) * h.2.2.2.2.2.2) (16 - 1 - j))) (hN 49 (by decide)) rfl rfl (by decide) (by decide) ⟨by decide, by decide⟩ rfl rfl (Nat.le_of_ble_eq_true rfl) eX12_finish_129 (fun r σ' hp => ?_)
        obtain ⟨rfl, rfl⟩ := hp
        refine v_iinc (lv' := [(0, .ref (ad 49)), (1, .long (((8 : Int64)) * h.2.2.2.2.2.2)), (3, .int (nI (16 - (j + 1)) + (-1)))]) C eX12_finish_132 2 rfl (by rw [ix_m1, hm]; exact congrArg (· + (-1 : Int32)) (congrArg nI (by omega : 16 - 1 - j = 16 - (j + 1)))) (by decide) [1, 2, 0] rfl ?_
        refine v_goto (tgt := 107) C eX12_finish_135 (by decide) ?_
        exact ih
  · intro i hi ih
    have hzi := hz i
    have hlt : (g.2.2.2.2.2.1 + i) % 128 < 128 := Nat.mod_lt _ (by decide)
    have hpz : (g.2.2.2.2.2.1 + i) % 128 ≠ 112 := by have h1 : i < (128 - 128 / 8 + 128 - g.2.2.2.2.2.1) % 128 := hi; have : g.2.2.2.2.2.1 < 128 := hf1; omega
    rw [hR] at hzi
    refine v_aload_n C eX12_finish_70 rfl 0 rfl ?_
    refine n_get C I fX12_180_X12 eX12_finish_71 (hN 49 (by decide)) rfl rfl ?_
    refine v_aload_n C eX12_finish_74 rfl 0 rfl ?_
    refine n_get C I fX12_193_X12 eX12_finish_75 (hN 49 (by decide)) rfl rfl ?_
    refine v_aload_n C eX12_finish_78 rfl 0 rfl ?_
    refine n_get C I fX12_193_X12 eX12_finish_79 (hN 49 (by decide)) rfl rfl ?_
    refine v_bipush (v := (8 : Int32)) C eX12_finish_82 (by decide) ?_
    refine v_idiv C eX12_finish_84 (by decide) ?_
    refine v_isub C eX12_finish_85 ?_
    refine v_icmp_eq (tgt := 97) C eX12_finish_86 (by decide) (fun h => absurd h (ix_ne (a := (hZero T Rc K 3 i g).2.2.2.2.2.1) (b := 128 - (128 / 8)) (rfl : nI (hZero T Rc K 3 i g).2.2.2.2.2.1 = nI (hZero T Rc K 3 i g).2.2.2.2.2.1) (ix_sub (a := 128) (b := 128 / 8) (rfl : nI (rateK 3) = nI 128) (ix_div (a := 128) (d := 8) (rfl : nI (rateK 3) = nI 128) (rfl : (8 : Int32) = nI 8) (by omega) (by omega) (by omega)) (by omega)) (by omega) (by omega) (by omega))) (fun _ => ?_)
    refine v_aload_n C eX12_finish_89 rfl 0 rfl ?_
    refine v_iconst (v := (0 : Int32)) C eX12_finish_90 (by decide) ?_
    refine n_callV (As := [.int ((0 : Int32))]) (rest := []) C I mX12_171 (c_put I hN h11 h12 h6 hk (hZero T Rc K 3 i g) (by rw [hz i]; exact Nat.mod_lt _ (by decide)) 0) (hN 49 (by decide)) rfl rfl (by decide) (by decide) ⟨by decide, by decide⟩ rfl rfl (Nat.le_of_ble_eq_true rfl) eX12_finish_91 (fun r σ' hp => ?_)
    obtain ⟨rfl, rfl⟩ := hp
    refine v_goto (tgt := 70) C eX12_finish_94 (by decide) ?_
    exact ih

end M6
