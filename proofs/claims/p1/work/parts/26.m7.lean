theorem eX12_squeeze_0 : vD cX12_squeeze 0 (.aload_n 0) 1 1 := ⟨by decide +kernel, rfl⟩
theorem eX12_squeeze_1 : vD cX12_squeeze 1 (.getfield 180) 3 4 := ⟨by decide +kernel, rfl⟩
theorem eX12_squeeze_4 : vD cX12_squeeze 4 (.aload_n 0) 1 5 := ⟨by decide +kernel, rfl⟩
theorem eX12_squeeze_5 : vD cX12_squeeze 5 (.getfield 193) 3 8 := ⟨by decide +kernel, rfl⟩
theorem eX12_squeeze_8 : vD cX12_squeeze 8 (.if_icmp .ne 12) 3 11 := ⟨by decide +kernel, rfl⟩
theorem eX12_squeeze_11 : vD cX12_squeeze 11 (.aload_n 0) 1 12 := ⟨by decide +kernel, rfl⟩
theorem eX12_squeeze_12 : vD cX12_squeeze 12 (.invokevirtual 206) 3 15 := ⟨by decide +kernel, rfl⟩
theorem eX12_squeeze_15 : vD cX12_squeeze 15 (.aload_n 0) 1 16 := ⟨by decide +kernel, rfl⟩
theorem eX12_squeeze_16 : vD cX12_squeeze 16 (.iconst 0) 1 17 := ⟨by decide +kernel, rfl⟩
theorem eX12_squeeze_17 : vD cX12_squeeze 17 (.putfield 180) 3 20 := ⟨by decide +kernel, rfl⟩
theorem eX12_squeeze_20 : vD cX12_squeeze 20 (.aload_n 0) 1 21 := ⟨by decide +kernel, rfl⟩
theorem eX12_squeeze_21 : vD cX12_squeeze 21 (.getfield 48) 3 24 := ⟨by decide +kernel, rfl⟩
theorem eX12_squeeze_24 : vD cX12_squeeze 24 (.aload_n 0) 1 25 := ⟨by decide +kernel, rfl⟩
theorem eX12_squeeze_25 : vD cX12_squeeze 25 (.getfield 180) 3 28 := ⟨by decide +kernel, rfl⟩
theorem eX12_squeeze_28 : vD cX12_squeeze 28 (.bipush 8) 2 30 := ⟨by decide +kernel, rfl⟩
theorem eX12_squeeze_30 : vD cX12_squeeze 30 .idiv 1 31 := ⟨by decide +kernel, rfl⟩
theorem eX12_squeeze_31 : vD cX12_squeeze 31 .laload 1 32 := ⟨by decide +kernel, rfl⟩
theorem eX12_squeeze_32 : vD cX12_squeeze 32 (.bipush 8) 2 34 := ⟨by decide +kernel, rfl⟩
theorem eX12_squeeze_34 : vD cX12_squeeze 34 (.aload_n 0) 1 35 := ⟨by decide +kernel, rfl⟩
theorem eX12_squeeze_35 : vD cX12_squeeze 35 (.getfield 180) 3 38 := ⟨by decide +kernel, rfl⟩
theorem eX12_squeeze_38 : vD cX12_squeeze 38 (.bipush 8) 2 40 := ⟨by decide +kernel, rfl⟩
theorem eX12_squeeze_40 : vD cX12_squeeze 40 .irem 1 41 := ⟨by decide +kernel, rfl⟩
theorem eX12_squeeze_41 : vD cX12_squeeze 41 .imul 1 42 := ⟨by decide +kernel, rfl⟩
theorem eX12_squeeze_42 : vD cX12_squeeze 42 .lushr 1 43 := ⟨by decide +kernel, rfl⟩
theorem eX12_squeeze_43 : vD cX12_squeeze 43 .l2i 1 44 := ⟨by decide +kernel, rfl⟩
theorem eX12_squeeze_44 : vD cX12_squeeze 44 (.sipush 255) 3 47 := ⟨by decide +kernel, rfl⟩
theorem eX12_squeeze_47 : vD cX12_squeeze 47 .iand 1 48 := ⟨by decide +kernel, rfl⟩
theorem eX12_squeeze_48 : vD cX12_squeeze 48 (.istore_n 1) 1 49 := ⟨by decide +kernel, rfl⟩
theorem eX12_squeeze_49 : vD cX12_squeeze 49 (.aload_n 0) 1 50 := ⟨by decide +kernel, rfl⟩
theorem eX12_squeeze_50 : vD cX12_squeeze 50 .dup 1 51 := ⟨by decide +kernel, rfl⟩
theorem eX12_squeeze_51 : vD cX12_squeeze 51 (.getfield 180) 3 54 := ⟨by decide +kernel, rfl⟩
theorem eX12_squeeze_54 : vD cX12_squeeze 54 (.iconst 1) 1 55 := ⟨by decide +kernel, rfl⟩
theorem eX12_squeeze_55 : vD cX12_squeeze 55 .iadd 1 56 := ⟨by decide +kernel, rfl⟩
theorem eX12_squeeze_56 : vD cX12_squeeze 56 (.putfield 180) 3 59 := ⟨by decide +kernel, rfl⟩
theorem eX12_squeeze_59 : vD cX12_squeeze 59 (.iload_n 1) 1 60 := ⟨by decide +kernel, rfl⟩
theorem eX12_squeeze_60 : vD cX12_squeeze 60 .ireturn 1 61 := ⟨by decide +kernel, rfl⟩
theorem eX12_give_0 : vD cX12_give 0 (.aload_n 0) 1 1 := ⟨by decide +kernel, rfl⟩
theorem eX12_give_1 : vD cX12_give 1 (.invokevirtual 174) 3 4 := ⟨by decide +kernel, rfl⟩
theorem eX12_give_4 : vD cX12_give 4 (.iconst 0) 1 5 := ⟨by decide +kernel, rfl⟩
theorem eX12_give_5 : vD cX12_give 5 (.istore 4) 2 7 := ⟨by decide +kernel, rfl⟩
theorem eX12_give_7 : vD cX12_give 7 (.iload 4) 2 9 := ⟨by decide +kernel, rfl⟩
theorem eX12_give_9 : vD cX12_give 9 (.iload_n 3) 1 10 := ⟨by decide +kernel, rfl⟩
theorem eX12_give_10 : vD cX12_give 10 (.if_icmp .ge 92) 3 13 := ⟨by decide +kernel, rfl⟩
theorem eX12_give_13 : vD cX12_give 13 (.aload_n 0) 1 14 := ⟨by decide +kernel, rfl⟩
theorem eX12_give_14 : vD cX12_give 14 (.invokevirtual 198) 3 17 := ⟨by decide +kernel, rfl⟩
theorem eX12_give_17 : vD cX12_give 17 (.ifCond .eq 17) 3 20 := ⟨by decide +kernel, rfl⟩
theorem eX12_give_20 : vD cX12_give 20 (.aload_n 1) 1 21 := ⟨by decide +kernel, rfl⟩
theorem eX12_give_21 : vD cX12_give 21 (.iload_n 2) 1 22 := ⟨by decide +kernel, rfl⟩
theorem eX12_give_22 : vD cX12_give 22 (.iload 4) 2 24 := ⟨by decide +kernel, rfl⟩
theorem eX12_give_24 : vD cX12_give 24 .iadd 1 25 := ⟨by decide +kernel, rfl⟩
theorem eX12_give_25 : vD cX12_give 25 (.aload_n 0) 1 26 := ⟨by decide +kernel, rfl⟩
theorem eX12_give_26 : vD cX12_give 26 (.invokevirtual 229) 3 29 := ⟨by decide +kernel, rfl⟩
theorem eX12_give_29 : vD cX12_give 29 .i2b 1 30 := ⟨by decide +kernel, rfl⟩
theorem eX12_give_30 : vD cX12_give 30 .bastore 1 31 := ⟨by decide +kernel, rfl⟩
theorem eX12_give_31 : vD cX12_give 31 (.goto 65) 3 34 := ⟨by decide +kernel, rfl⟩
theorem eX12_give_34 : vD cX12_give 34 (.aload_n 1) 1 35 := ⟨by decide +kernel, rfl⟩
theorem eX12_give_35 : vD cX12_give 35 (.iload_n 2) 1 36 := ⟨by decide +kernel, rfl⟩
theorem eX12_give_36 : vD cX12_give 36 (.iload 4) 2 38 := ⟨by decide +kernel, rfl⟩
theorem eX12_give_38 : vD cX12_give 38 .iadd 1 39 := ⟨by decide +kernel, rfl⟩
theorem eX12_give_39 : vD cX12_give 39 (.aload_n 0) 1 40 := ⟨by decide +kernel, rfl⟩
theorem eX12_give_40 : vD cX12_give 40 (.getfield 193) 3 43 := ⟨by decide +kernel, rfl⟩
theorem eX12_give_43 : vD cX12_give 43 (.bipush 64) 2 45 := ⟨by decide +kernel, rfl⟩
theorem eX12_give_45 : vD cX12_give 45 (.if_icmp .ne 26) 3 48 := ⟨by decide +kernel, rfl⟩
theorem eX12_give_48 : vD cX12_give 48 (.aload_n 0) 1 49 := ⟨by decide +kernel, rfl⟩
theorem eX12_give_49 : vD cX12_give 49 (.getfield 48) 3 52 := ⟨by decide +kernel, rfl⟩
theorem eX12_give_52 : vD cX12_give 52 (.iload 4) 2 54 := ⟨by decide +kernel, rfl⟩
theorem eX12_give_54 : vD cX12_give 54 (.iconst 4) 1 55 := ⟨by decide +kernel, rfl⟩
theorem eX12_give_55 : vD cX12_give 55 .idiv 1 56 := ⟨by decide +kernel, rfl⟩
theorem eX12_give_56 : vD cX12_give 56 .laload 1 57 := ⟨by decide +kernel, rfl⟩
theorem eX12_give_57 : vD cX12_give 57 (.bipush 24) 2 59 := ⟨by decide +kernel, rfl⟩
theorem eX12_give_59 : vD cX12_give 59 (.bipush 8) 2 61 := ⟨by decide +kernel, rfl⟩
theorem eX12_give_61 : vD cX12_give 61 (.iload 4) 2 63 := ⟨by decide +kernel, rfl⟩
theorem eX12_give_63 : vD cX12_give 63 (.iconst 4) 1 64 := ⟨by decide +kernel, rfl⟩
theorem eX12_give_64 : vD cX12_give 64 .irem 1 65 := ⟨by decide +kernel, rfl⟩
theorem eX12_give_65 : vD cX12_give 65 .imul 1 66 := ⟨by decide +kernel, rfl⟩
theorem eX12_give_66 : vD cX12_give 66 .isub 1 67 := ⟨by decide +kernel, rfl⟩
theorem eX12_give_67 : vD cX12_give 67 .lushr 1 68 := ⟨by decide +kernel, rfl⟩
theorem eX12_give_68 : vD cX12_give 68 (.goto 25) 3 71 := ⟨by decide +kernel, rfl⟩
theorem eX12_give_71 : vD cX12_give 71 (.aload_n 0) 1 72 := ⟨by decide +kernel, rfl⟩
theorem eX12_give_72 : vD cX12_give 72 (.getfield 48) 3 75 := ⟨by decide +kernel, rfl⟩
theorem eX12_give_75 : vD cX12_give 75 (.iload 4) 2 77 := ⟨by decide +kernel, rfl⟩
theorem eX12_give_77 : vD cX12_give 77 (.bipush 8) 2 79 := ⟨by decide +kernel, rfl⟩
theorem eX12_give_79 : vD cX12_give 79 .idiv 1 80 := ⟨by decide +kernel, rfl⟩
theorem eX12_give_80 : vD cX12_give 80 .laload 1 81 := ⟨by decide +kernel, rfl⟩
theorem eX12_give_81 : vD cX12_give 81 (.bipush 56) 2 83 := ⟨by decide +kernel, rfl⟩
theorem eX12_give_83 : vD cX12_give 83 (.bipush 8) 2 85 := ⟨by decide +kernel, rfl⟩
theorem eX12_give_85 : vD cX12_give 85 (.iload 4) 2 87 := ⟨by decide +kernel, rfl⟩
theorem eX12_give_87 : vD cX12_give 87 (.bipush 8) 2 89 := ⟨by decide +kernel, rfl⟩
theorem eX12_give_89 : vD cX12_give 89 .irem 1 90 := ⟨by decide +kernel, rfl⟩
theorem eX12_give_90 : vD cX12_give 90 .imul 1 91 := ⟨by decide +kernel, rfl⟩
theorem eX12_give_91 : vD cX12_give 91 .isub 1 92 := ⟨by decide +kernel, rfl⟩
theorem eX12_give_92 : vD cX12_give 92 .lushr 1 93 := ⟨by decide +kernel, rfl⟩
theorem eX12_give_93 : vD cX12_give 93 .l2i 1 94 := ⟨by decide +kernel, rfl⟩
theorem eX12_give_94 : vD cX12_give 94 .i2b 1 95 := ⟨by decide +kernel, rfl⟩
theorem eX12_give_95 : vD cX12_give 95 .bastore 1 96 := ⟨by decide +kernel, rfl⟩
theorem eX12_give_96 : vD cX12_give 96 (.iinc 4 1) 3 99 := ⟨by decide +kernel, rfl⟩
theorem eX12_give_99 : vD cX12_give 99 (.goto (-92)) 3 102 := ⟨by decide +kernel, rfl⟩
theorem eX12_give_102 : vD cX12_give 102 .return_ 1 103 := ⟨by decide +kernel, rfl⟩

def sqB (S : Nat → Int64) (f : Nat) : Int32 := (us64 (S (f / 8)) (nI (8 * (f % 8)))).toInt32 &&& 255
/-- the byte i of a result, as it is cast -/
def gvB (k : Nat) (S : Nat → Int64) (i : Nat) : Int32 := if k = 12 then sqB S i else if k = 1 then (us64 (S (i / 4)) (nI (24 - 8 * (i % 4)))).toInt32 else (us64 (S (i / 8)) (nI (56 - 8 * (i % 8)))).toInt32
def gvF (k : Nat) (S : Nat → Int64) (a n : Nat) (f : Nat → Int32) : Nat → Int32 := itN (fun i f => upd f (a + i) (vp_nar .byte (gvB k S i).toInt8.toInt32)) n f
theorem hσ_up {G : vG} {ad : Nat → Nat} {σ : nS} {x : Nat → Int32} {k : Nat} {h : hT} {q : Nat} {e : va_E} (hq : q ∉ [13, 14, 15, 16, 17, 49]) : va_up (hσ G ad σ x k h) q e = hσ G ad (va_up σ q e) x k h := by
  simp only [List.mem_cons, List.not_mem_nil, or_false, not_or] at hq
  funext j
  by_cases g : j = q
  · subst g
    rw [hσ_ne (by simp [hq])]
    simp [va_up]
  · simp only [hσ, va_up, if_neg g]
section M7
variable {G : vG} {B : Nat} {l : Launch} {ad : Nat → Nat} {N : Nat}
set_option maxRecDepth 100000 in
set_option maxHeartbeats 4000000 in
theorem c_squeeze (I : nI1 ad N) (hN : ∀ k, k < 74 → k < N) {σ : nS} {x T : Nat → Int32} {Rc K : Nat → Int64} (h11 : σ 11 = eI G 25 T) (h12 : σ 12 = eJ G 24 Rc) (h6 : σ 6 = eJ G 80 K) (S O D W : Nat → Int64) (Bk : Nat → Int32) (fl : Nat) (tt : Int64) (hf : fl < 136) : nOk G B l ad N yX12_squeeze cX12_squeeze 2 (some .int) 2 0 0 [.ref (ad 49)] (hσ G ad σ x 12 (S, O, D, W, Bk, fl, tt)) (fun r σ' => r = some (.int (sqB S fl)) ∧ σ' = hσ G ad σ x 12 (S, O, D, W, Bk, fl + 1, tt)) := by
  refine vOk.of (by decide +kernel) (Nat.le_of_ble_eq_true rfl) ?_
  intro p e s m args below meth c C
  refine v_eq (lv' := [(0, .ref (ad 49))]) rfl rfl rfl ?_
  refine v_eq (w' := nW ad N (va_up (va_up (va_up (va_up (va_up (va_up σ 13 (eJ G 25 S)) 14 (eJ G 25 O)) 15 (eJ G 5 D)) 16 (eJ G 80 W)) 17 (eB G 128 Bk)) 49 (eO 9 (mO ad (upd (upd (upd x 18 (nI 12)) 19 (nI (rateK 12))) 20 (nI fl)) tt)))) rfl rfl rfl ?_
  refine v_aload_n C eX12_squeeze_0 rfl 0 rfl ?_
  refine n_get C I fX12_180_X12 eX12_squeeze_1 (hN 49 (by decide)) rfl rfl ?_
  refine v_aload_n C eX12_squeeze_4 rfl 0 rfl ?_
  refine n_get C I fX12_193_X12 eX12_squeeze_5 (hN 49 (by decide)) rfl rfl ?_
  refine v_icmp_ne (tgt := 20) C eX12_squeeze_8 (by decide) (fun _ => ?_) (fun h => absurd h (ix_ne (a := fl) (b := 136) (rfl : nI fl = nI fl) (rfl : nI (rateK 12) = nI 136) (by omega) (by omega) (by omega)))
  refine v_aload_n C eX12_squeeze_20 rfl 0 rfl ?_
  refine n_get C I fX12_48_X12 eX12_squeeze_21 (hN 49 (by decide)) rfl rfl ?_
  refine v_aload_n C eX12_squeeze_24 rfl 0 rfl ?_
  refine n_get C I fX12_180_X12 eX12_squeeze_25 (hN 49 (by decide)) rfl rfl ?_
  refine v_bipush (v := (8 : Int32)) C eX12_squeeze_28 (by decide) ?_
  refine v_idiv C eX12_squeeze_30 (by decide) ?_
  refine n_lald C I eX12_squeeze_31 (hN 13 (by decide)) rfl (fl / 8) (ix_div (a := fl) (d := 8) (rfl : nI fl = nI fl) (rfl : (8 : Int32) = nI 8) (by omega) (by omega) (by omega)) (by omega) (by decide) ?_
  refine v_bipush (v := (8 : Int32)) C eX12_squeeze_32 (by decide) ?_
  refine v_aload_n C eX12_squeeze_34 rfl 0 rfl ?_
  refine n_get C I fX12_180_X12 eX12_squeeze_35 (hN 49 (by decide)) rfl rfl ?_
  refine v_bipush (v := (8 : Int32)) C eX12_squeeze_38 (by decide) ?_
  refine v_irem C eX12_squeeze_40 (by decide) ?_
  refine v_imul C eX12_squeeze_41 ?_
  refine v_natT (show ((8 : Int32)) * ((nI fl) - (nI fl) / ((8 : Int32)) * ((8 : Int32))) = nI (8 * (fl % 8)) from (ix_mul (a := 8) (b := fl % 8) (rfl : (8 : Int32) = nI 8) (ix_rem (a := fl) (d := 8) (rfl : nI fl = nI fl) (rfl : (8 : Int32) = nI 8) (by omega) (by omega) (by omega)))) ?_
  refine v_lushr C eX12_squeeze_42 ?_
  refine v_l2i C eX12_squeeze_43 ?_
  refine v_sipush (v := (255 : Int32)) C eX12_squeeze_44 (by decide) ?_
  refine v_iand C eX12_squeeze_47 ?_
  refine v_istore_n (lv' := [(0, .ref (ad 49)), (1, .int (((((S (fl / 8)).toUInt64 >>> ((nI (8 * (fl % 8))).toInt64.toUInt64 &&& Int64.toUInt64 63)).toInt64).toInt32) &&& ((255 : Int32))))]) C eX12_squeeze_48 rfl (by decide) [1, 0] rfl ?_
  refine v_aload_n C eX12_squeeze_49 rfl 0 rfl ?_
  refine v_dup C eX12_squeeze_50 rfl ?_
  refine n_get C I fX12_180_X12 eX12_squeeze_51 (hN 49 (by decide)) rfl rfl ?_
  refine v_iconst (v := (1 : Int32)) C eX12_squeeze_54 (by decide) ?_
  refine v_iadd C eX12_squeeze_55 ?_
  refine v_natT (show (nI fl) + ((1 : Int32)) = nI (fl + 1) from (ix_add (a := fl) (b := 1) (rfl : nI fl = nI fl) (rfl : (1 : Int32) = nI 1))) ?_
  refine n_put (fs' := mO ad (upd (upd (upd x 18 (nI 12)) 19 (nI (rateK 12))) 20 (nI (fl + 1))) tt) C I fX12_180_X12p eX12_squeeze_56 (hN 49 (by decide)) rfl rfl rfl (Nat.le_of_ble_eq_true rfl) rfl ?_
  refine v_iload_n C eX12_squeeze_59 rfl 1 rfl ?_
  refine v_eq (w' := nW ad N (va_up (va_up (va_up (va_up (va_up (va_up σ 13 (eJ G 25 S)) 14 (eJ G 25 O)) 15 (eJ G 5 D)) 16 (eJ G 80 W)) 17 (eB G 128 Bk)) 49 (eO 9 (mO ad (upd (upd (upd x 18 (nI 12)) 19 (nI (rateK 12))) 20 (nI (fl + 1))) tt)))) (congrArg (nW ad N) (n_extL [13, 14, 15, 16, 17, 49] ⟨rfl, rfl, rfl, rfl, rfl, rfl, trivial⟩ (fun q h => by simp only [List.mem_cons, List.not_mem_nil, or_false, not_or] at h; simp [va_up, h]))) rfl rfl ?_
  exact n_iret C rfl eX12_squeeze_60 ⟨rfl, rfl⟩

set_option maxRecDepth 100000 in
set_option maxHeartbeats 4000000 in
theorem c_give1 (I : nI1 ad N) (hN : ∀ k, k < 74 → k < N) {σ : nS} {x T : Nat → Int32} {Rc K : Nat → Int64} (h11 : σ 11 = eI G 25 T) (h12 : σ 12 = eJ G 24 Rc) (h6 : σ 6 = eJ G 80 K) (h : hT) (hf : h.2.2.2.2.2.1 < rateK 1) {ko no : Nat} {fo : Nat → Int32} (hkN : ko < N) (hko : ko ∉ [13, 14, 15, 16, 17, 49]) (hk2 : ko ∉ [6, 11, 12]) (ho : σ ko = eB G no fo) (a n : Nat) (hn : n ≤ 32) (han : a + n ≤ no) (hno : no < 2 ^ 31) : nOk G B l ad N yX12_give cX12_give 5 none 4 0 0 [.ref (ad 49), .ref (ad ko), .int (nI a), .int (nI n)] (hσ G ad σ x 1 h) (fun r σ' => r = none ∧ σ' = hσ G ad (va_up σ ko (eB G no (gvF 1 (hFin T Rc K 1 h).1 a n fo))) x 1 (hFin T Rc K 1 h)) := by
  refine vOk.of (by decide +kernel) (Nat.le_of_ble_eq_true rfl) ?_
  intro p e s m args below meth c C
  have hk : 1 = 1 ∨ 1 = 3 ∨ 1 = 12 := by decide
  refine v_eq (lv' := [(0, .ref (ad 49)), (1, .ref (ad ko)), (2, .int (nI a)), (3, .int (nI n))]) rfl rfl rfl ?_
  refine v_aload_n C eX12_give_0 rfl 0 rfl ?_
  refine n_callV (As := []) (rest := []) C I mX12_174 (c_finish1 I hN h11 h12 h6 h hf) (hN 49 (by decide)) rfl rfl (by decide) (by decide) ⟨by decide, by decide⟩ rfl rfl (Nat.le_of_ble_eq_true rfl) eX12_give_1 (fun r σ' hp => ?_)
  obtain ⟨rfl, rfl⟩ := hp
  generalize hFin T Rc K 1 h = g
  refine v_eq (w' := nW ad N (hσ G ad (va_up σ ko (eB G no (gvF 1 g.1 a 0 fo))) x 1 g)) (by rw [show gvF 1 g.1 a 0 fo = fo from rfl, n_id ho]) rfl rfl ?_
  refine v_iconst (v := (0 : Int32)) C eX12_give_4 (by decide) ?_
  refine v_istore (lv' := [(0, .ref (ad 49)), (1, .ref (ad ko)), (2, .int (nI a)), (3, .int (nI n)), (4, .int ((0 : Int32)))]) C eX12_give_5 (by decide) [1, 2, 3, 4, 0] rfl ?_
  refine v_forV (fun i => hσ G ad (va_up σ ko (eB G no (gvF 1 g.1 a i fo))) x 1 g) (fun i => [(0, .ref (ad 49)), (1, .ref (ad ko)), (2, .int (nI a)), (3, .int (nI n)), (4, .int (nI i))]) n ?_ ?_
  · refine v_iload C eX12_give_7 4 rfl ?_
    refine v_iload_n C eX12_give_9 rfl 3 rfl ?_
    refine v_icmp_ge (tgt := 102) C eX12_give_10 (by decide) (fun _ => ?_) (fun h => absurd (ix_le (a := n) (b := n) (rfl : nI n = nI n) (rfl : nI n = nI n) (by omega) (by omega) (by omega)) h)
    exact n_vret C rfl eX12_give_102 ⟨rfl, rfl⟩
  · intro i hi ih
    refine v_iload C eX12_give_7 4 rfl ?_
    refine v_iload_n C eX12_give_9 rfl 3 rfl ?_
    refine v_icmp_ge (tgt := 102) C eX12_give_10 (by decide) (fun h => absurd h (ix_nle (a := n) (b := i) (rfl : nI n = nI n) (rfl : nI i = nI i) (by omega) (by omega) (by omega))) (fun _ => ?_)
    have hob : (hσ G ad (va_up σ ko (eB G no (gvF 1 g.1 a i fo))) x 1 g) ko = eB G no (gvF 1 g.1 a i fo) := (hσ_ne hko).trans n_self
    refine v_aload_n C eX12_give_13 rfl 0 rfl ?_
    refine n_callV (As := []) (rest := []) C I mX12_198 (c_sponge I hN rfl) (hN 49 (by decide)) rfl rfl (by omega) (by decide) ⟨by decide, by decide⟩ rfl rfl (Nat.le_of_ble_eq_true rfl) eX12_give_14 (fun r σ' hp => ?_)
    obtain ⟨rfl, rfl⟩ := hp
    refine v_if_eq (tgt := 34) C eX12_give_17 (by decide) (fun _ => ?_) (fun h => absurd (show (if nI 1 ≤ (6 : Int32) then (0 : Int32) else 1) = 0 from by decide +kernel) h)
    refine v_aload_n C eX12_give_34 rfl 1 rfl ?_
    refine v_iload_n C eX12_give_35 rfl 2 rfl ?_
    refine v_iload C eX12_give_36 4 rfl ?_
    refine v_iadd C eX12_give_38 ?_
    refine v_aload_n C eX12_give_39 rfl 0 rfl ?_
    refine n_get C I fX12_193_X12 eX12_give_40 (hN 49 (by decide)) rfl rfl ?_
    refine v_bipush (v := (64 : Int32)) C eX12_give_43 (by decide) ?_
    refine v_icmp_ne (tgt := 71) C eX12_give_45 (by decide) (fun h => absurd (ix_eq (a := 64) (b := 64) (rfl : nI (rateK 1) = nI 64) (rfl : (64 : Int32) = nI 64) (by omega) (by omega) (by omega)) h) (fun _ => ?_)
    refine v_aload_n C eX12_give_48 rfl 0 rfl ?_
    refine n_get C I fX12_48_X12 eX12_give_49 (hN 49 (by decide)) rfl rfl ?_
    refine v_iload C eX12_give_52 4 rfl ?_
    refine v_iconst (v := (4 : Int32)) C eX12_give_54 (by decide) ?_
    refine v_idiv C eX12_give_55 (by decide) ?_
    refine n_lald C I eX12_give_56 (hN 13 (by decide)) rfl (i / 4) (ix_div (a := i) (d := 4) (rfl : nI i = nI i) (rfl : (4 : Int32) = nI 4) (by omega) (by omega) (by omega)) (by omega) (by decide) ?_
    refine v_bipush (v := (24 : Int32)) C eX12_give_57 (by decide) ?_
    refine v_bipush (v := (8 : Int32)) C eX12_give_59 (by decide) ?_
    refine v_iload C eX12_give_61 4 rfl ?_
    refine v_iconst (v := (4 : Int32)) C eX12_give_63 (by decide) ?_
    refine v_irem C eX12_give_64 (by decide) ?_
    refine v_imul C eX12_give_65 ?_
    refine v_isub C eX12_give_66 ?_
    refine v_natT (show ((24 : Int32)) - (((8 : Int32)) * ((nI i) - (nI i) / ((4 : Int32)) * ((4 : Int32)))) = nI (24 - (8 * (i % 4))) from (ix_sub (a := 24) (b := 8 * (i % 4)) (rfl : (24 : Int32) = nI 24) (ix_mul (a := 8) (b := i % 4) (rfl : (8 : Int32) = nI 8) (ix_rem (a := i) (d := 4) (rfl : nI i = nI i) (rfl : (4 : Int32) = nI 4) (by omega) (by omega) (by omega))) (by omega))) ?_
    refine v_lushr C eX12_give_67 ?_
    refine v_goto (tgt := 93) C eX12_give_68 (by decide) ?_
    refine v_l2i C eX12_give_93 ?_
    refine v_i2b C eX12_give_94 ?_
    refine n_bast C I eX12_give_95 hkN hob (a + i) (ix_add (a := a) (b := i) (rfl : nI a = nI a) (rfl : nI i = nI i)) (by omega) (by omega) ?_
    refine v_eq (w' := nW ad N (hσ G ad (va_up σ ko (eB G no (gvF 1 g.1 a (i + 1) fo))) x 1 g)) (congrArg (nW ad N) (by rw [hσ_up hko, bx_uu]; rfl)) rfl rfl ?_
    refine v_iinc (lv' := [(0, .ref (ad 49)), (1, .ref (ad ko)), (2, .int (nI a)), (3, .int (nI n)), (4, .int (nI (i + 1)))]) C eX12_give_96 4 rfl (ix_inc _) (by decide) [1, 2, 3, 4, 0] rfl ?_
    refine v_goto (tgt := 7) C eX12_give_99 (by decide) ?_
    exact ih

set_option maxRecDepth 100000 in
set_option maxHeartbeats 4000000 in
theorem c_give3 (I : nI1 ad N) (hN : ∀ k, k < 74 → k < N) {σ : nS} {x T : Nat → Int32} {Rc K : Nat → Int64} (h11 : σ 11 = eI G 25 T) (h12 : σ 12 = eJ G 24 Rc) (h6 : σ 6 = eJ G 80 K) (h : hT) (hf : h.2.2.2.2.2.1 < rateK 3) {ko no : Nat} {fo : Nat → Int32} (hkN : ko < N) (hko : ko ∉ [13, 14, 15, 16, 17, 49]) (hk2 : ko ∉ [6, 11, 12]) (ho : σ ko = eB G no fo) (a n : Nat) (hn : n ≤ 64) (han : a + n ≤ no) (hno : no < 2 ^ 31) : nOk G B l ad N yX12_give cX12_give 5 none 4 0 0 [.ref (ad 49), .ref (ad ko), .int (nI a), .int (nI n)] (hσ G ad σ x 3 h) (fun r σ' => r = none ∧ σ' = hσ G ad (va_up σ ko (eB G no (gvF 3 (hFin T Rc K 3 h).1 a n fo))) x 3 (hFin T Rc K 3 h)) := by
  refine vOk.of (by decide +kernel) (Nat.le_of_ble_eq_true rfl) ?_
  intro p e s m args below meth c C
  have hk : 3 = 1 ∨ 3 = 3 ∨ 3 = 12 := by decide
  refine v_eq (lv' := [(0, .ref (ad 49)), (1, .ref (ad ko)), (2, .int (nI a)), (3, .int (nI n))]) rfl rfl rfl ?_
  refine v_aload_n C eX12_give_0 rfl 0 rfl ?_
  refine n_callV (As := []) (rest := []) C I mX12_174 (c_finish3 I hN h11 h12 h6 h hf) (hN 49 (by decide)) rfl rfl (by decide) (by decide) ⟨by decide, by decide⟩ rfl rfl (Nat.le_of_ble_eq_true rfl) eX12_give_1 (fun r σ' hp => ?_)
  obtain ⟨rfl, rfl⟩ := hp
  generalize hFin T Rc K 3 h = g
  refine v_eq (w' := nW ad N (hσ G ad (va_up σ ko (eB G no (gvF 3 g.1 a 0 fo))) x 3 g)) (by rw [show gvF 3 g.1 a 0 fo = fo from rfl, n_id ho]) rfl rfl ?_
  refine v_iconst (v := (0 : Int32)) C eX12_give_4 (by decide) ?_
  refine v_istore (lv' := [(0, .ref (ad 49)), (1, .ref (ad ko)), (2, .int (nI a)), (3, .int (nI n)), (4, .int ((0 : Int32)))]) C eX12_give_5 (by decide) [1, 2, 3, 4, 0] rfl ?_
  refine v_forV (fun i => hσ G ad (va_up σ ko (eB G no (gvF 3 g.1 a i fo))) x 3 g) (fun i => [(0, .ref (ad 49)), (1, .ref (ad ko)), (2, .int (nI a)), (3, .int (nI n)), (4, .int (nI i))]) n ?_ ?_
  · refine v_iload C eX12_give_7 4 rfl ?_
    refine v_iload_n C eX12_give_9 rfl 3 rfl ?_
    refine v_icmp_ge (tgt := 102) C eX12_give_10 (by decide) (fun _ => ?_) (fun h => absurd (ix_le (a := n) (b := n) (rfl : nI n = nI n) (rfl : nI n = nI n) (by omega) (by omega) (by omega)) h)
    exact n_vret C rfl eX12_give_102 ⟨rfl, rfl⟩
  · intro i hi ih
    refine v_iload C eX12_give_7 4 rfl ?_
    refine v_iload_n C eX12_give_9 rfl 3 rfl ?_
    refine v_icmp_ge (tgt := 102) C eX12_give_10 (by decide) (fun h => absurd h (ix_nle (a := n) (b := i) (rfl : nI n = nI n) (rfl : nI i = nI i) (by omega) (by omega) (by omega))) (fun _ => ?_)
    have hob : (hσ G ad (va_up σ ko (eB G no (gvF 3 g.1 a i fo))) x 3 g) ko = eB G no (gvF 3 g.1 a i fo) := (hσ_ne hko).trans n_self
    refine v_aload_n C eX12_give_13 rfl 0 rfl ?_
    refine n_callV (As := []) (rest := []) C I mX12_198 (c_sponge I hN rfl) (hN 49 (by decide)) rfl rfl (by omega) (by decide) ⟨by decide, by decide⟩ rfl rfl (Nat.le_of_ble_eq_true rfl) eX12_give_14 (fun r σ' hp => ?_)
    obtain ⟨rfl, rfl⟩ := hp
    refine v_if_eq (tgt := 34) C eX12_give_17 (by decide) (fun _ => ?_) (fun h => absurd (show (if nI 3 ≤ (6 : Int32) then (0 : Int32) else 1) = 0 from by decide +kernel) h)
    refine v_aload_n C eX12_give_34 rfl 1 rfl ?_
    refine v_iload_n C eX12_give_35 rfl 2 rfl ?_
    refine v_iload C eX12_give_36 4 rfl ?_
    refine v_iadd C eX12_give_38 ?_
    refine v_aload_n C eX12_give_39 rfl 0 rfl ?_
    refine n_get C I fX12_193_X12 eX12_give_40 (hN 49 (by decide)) rfl rfl ?_
    refine v_bipush (v := (64 : Int32)) C eX12_give_43 (by decide) ?_
    refine v_icmp_ne (tgt := 71) C eX12_give_45 (by decide) (fun _ => ?_) (fun h => absurd h (ix_ne (a := 128) (b := 64) (rfl : nI (rateK 3) = nI 128) (rfl : (64 : Int32) = nI 64) (by omega) (by omega) (by omega)))
    refine v_aload_n C eX12_give_71 rfl 0 rfl ?_
    refine n_get C I fX12_48_X12 eX12_give_72 (hN 49 (by decide)) rfl rfl ?_
    refine v_iload C eX12_give_75 4 rfl ?_
    refine v_bipush (v := (8 : Int32)) C eX12_give_77 (by decide) ?_
    refine v_idiv C eX12_give_79 (by decide) ?_
    refine n_lald C I eX12_give_80 (hN 13 (by decide)) rfl (i / 8) (ix_div (a := i) (d := 8) (rfl : nI i = nI i) (rfl : (8 : Int32) = nI 8) (by omega) (by omega) (by omega)) (by omega) (by decide) ?_
    refine v_bipush (v := (56 : Int32)) C eX12_give_81 (by decide) ?_
    refine v_bipush (v := (8 : Int32)) C eX12_give_83 (by decide) ?_
    refine v_iload C eX12_give_85 4 rfl ?_
    refine v_bipush (v := (8 : Int32)) C eX12_give_87 (by decide) ?_
    refine v_irem C eX12_give_89 (by decide) ?_
    refine v_imul C eX12_give_90 ?_
    refine v_isub C eX12_give_91 ?_
    refine v_natT (show ((56 : Int32)) - (((8 : Int32)) * ((nI i) - (nI i) / ((8 : Int32)) * ((8 : Int32)))) = nI (56 - (8 * (i % 8))) from (ix_sub (a := 56) (b := 8 * (i % 8)) (rfl : (56 : Int32) = nI 56) (ix_mul (a := 8) (b := i % 8) (rfl : (8 : Int32) = nI 8) (ix_rem (a := i) (d := 8) (rfl : nI i = nI i) (rfl : (8 : Int32) = nI 8) (by omega) (by omega) (by omega))) (by omega))) ?_
    refine v_lushr C eX12_give_92 ?_
    refine v_l2i C eX12_give_93 ?_
    refine v_i2b C eX12_give_94 ?_
    refine n_bast C I eX12_give_95 hkN hob (a + i) (ix_add (a := a) (b := i) (rfl : nI a = nI a) (rfl : nI i = nI i)) (by omega) (by omega) ?_
    refine v_eq (w' := nW ad N (hσ G ad (va_up σ ko (eB G no (gvF 3 g.1 a (i + 1) fo))) x 3 g)) (congrArg (nW ad N) (by rw [hσ_up hko, bx_uu]; rfl)) rfl rfl ?_
    refine v_iinc (lv' := [(0, .ref (ad 49)), (1, .ref (ad ko)), (2, .int (nI a)), (3, .int (nI n)), (4, .int (nI (i + 1)))]) C eX12_give_96 4 rfl (ix_inc _) (by decide) [1, 2, 3, 4, 0] rfl ?_
    refine v_goto (tgt := 7) C eX12_give_99 (by decide) ?_
    exact ih

set_option maxRecDepth 100000 in
set_option maxHeartbeats 4000000 in
theorem c_give12 (I : nI1 ad N) (hN : ∀ k, k < 74 → k < N) {σ : nS} {x T : Nat → Int32} {Rc K : Nat → Int64} (h11 : σ 11 = eI G 25 T) (h12 : σ 12 = eJ G 24 Rc) (h6 : σ 6 = eJ G 80 K) (h : hT) (hf : h.2.2.2.2.2.1 < rateK 12) {ko no : Nat} {fo : Nat → Int32} (hkN : ko < N) (hko : ko ∉ [13, 14, 15, 16, 17, 49]) (hk2 : ko ∉ [6, 11, 12]) (ho : σ ko = eB G no fo) (a n : Nat) (hn : n ≤ 64) (han : a + n ≤ no) (hno : no < 2 ^ 31) : nOk G B l ad N yX12_give cX12_give 5 none 4 0 0 [.ref (ad 49), .ref (ad ko), .int (nI a), .int (nI n)] (hσ G ad σ x 12 h) (fun r σ' => r = none ∧ σ' = hσ G ad (va_up σ ko (eB G no (gvF 12 (hFin T Rc K 12 h).1 a n fo))) x 12 ((hFin T Rc K 12 h).1, (hFin T Rc K 12 h).2.1, (hFin T Rc K 12 h).2.2.1, (hFin T Rc K 12 h).2.2.2.1, (hFin T Rc K 12 h).2.2.2.2.1, n, (hFin T Rc K 12 h).2.2.2.2.2.2)) := by
  refine vOk.of (by decide +kernel) (Nat.le_of_ble_eq_true rfl) ?_
  intro p e s m args below meth c C
  have hk : 12 = 1 ∨ 12 = 3 ∨ 12 = 12 := by decide
  refine v_eq (lv' := [(0, .ref (ad 49)), (1, .ref (ad ko)), (2, .int (nI a)), (3, .int (nI n))]) rfl rfl rfl ?_
  obtain ⟨S0, O0, D0, W0, Bk0, fl0, tt0⟩ := h
  refine v_aload_n C eX12_give_0 rfl 0 rfl ?_
  refine n_callV (As := []) (rest := []) C I mX12_174 (c_finish12 I hN h11 h12 h6 S0 O0 D0 W0 Bk0 fl0 tt0 hf) (hN 49 (by decide)) rfl rfl (by decide) (by decide) ⟨by decide, by decide⟩ rfl rfl (Nat.le_of_ble_eq_true rfl) eX12_give_1 (fun r σ' hp => ?_)
  obtain ⟨rfl, rfl⟩ := hp
  generalize hg : (itN (pmR T Rc) 24 (sp1 (sp1 S0 fl0 31) 135 128, O0, D0)) = g
  have hF : hFin T Rc K 12 (S0, O0, D0, W0, Bk0, fl0, tt0) = (g.1, g.2.1, g.2.2, W0, Bk0, 0, tt0) := by rw [← hg]; rfl
  rw [hF]
  refine v_eq (w' := nW ad N (hσ G ad (va_up σ ko (eB G no (gvF 12 g.1 a 0 fo))) x 12 (g.1, g.2.1, g.2.2, W0, Bk0, 0, tt0))) (by rw [show gvF 12 g.1 a 0 fo = fo from rfl, n_id ho]) rfl rfl ?_
  refine v_iconst (v := (0 : Int32)) C eX12_give_4 (by decide) ?_
  refine v_istore (lv' := [(0, .ref (ad 49)), (1, .ref (ad ko)), (2, .int (nI a)), (3, .int (nI n)), (4, .int ((0 : Int32)))]) C eX12_give_5 (by decide) [1, 2, 3, 4, 0] rfl ?_
  refine v_forV (fun i => hσ G ad (va_up σ ko (eB G no (gvF 12 g.1 a i fo))) x 12 (g.1, g.2.1, g.2.2, W0, Bk0, i, tt0)) (fun i => [(0, .ref (ad 49)), (1, .ref (ad ko)), (2, .int (nI a)), (3, .int (nI n)), (4, .int (nI i))]) n ?_ ?_
  · refine v_iload C eX12_give_7 4 rfl ?_
    refine v_iload_n C eX12_give_9 rfl 3 rfl ?_
    refine v_icmp_ge (tgt := 102) C eX12_give_10 (by decide) (fun _ => ?_) (fun h => absurd (ix_le (a := n) (b := n) (rfl : nI n = nI n) (rfl : nI n = nI n) (by omega) (by omega) (by omega)) h)
    exact n_vret C rfl eX12_give_102 ⟨rfl, rfl⟩
  · intro i hi ih
    refine v_iload C eX12_give_7 4 rfl ?_
    refine v_iload_n C eX12_give_9 rfl 3 rfl ?_
    refine v_icmp_ge (tgt := 102) C eX12_give_10 (by decide) (fun h => absurd h (ix_nle (a := n) (b := i) (rfl : nI n = nI n) (rfl : nI i = nI i) (by omega) (by omega) (by omega))) (fun _ => ?_)
    have hob : (hσ G ad (va_up σ ko (eB G no (gvF 12 g.1 a i fo))) x 12 (g.1, g.2.1, g.2.2, W0, Bk0, i, tt0)) ko = eB G no (gvF 12 g.1 a i fo) := (hσ_ne hko).trans n_self
    refine v_aload_n C eX12_give_13 rfl 0 rfl ?_
    refine n_callV (As := []) (rest := []) C I mX12_198 (c_sponge I hN rfl) (hN 49 (by decide)) rfl rfl (by omega) (by decide) ⟨by decide, by decide⟩ rfl rfl (Nat.le_of_ble_eq_true rfl) eX12_give_14 (fun r σ' hp => ?_)
    obtain ⟨rfl, rfl⟩ := hp
    refine v_if_eq (tgt := 34) C eX12_give_17 (by decide) (fun h => absurd h (show ¬ (if nI 12 ≤ (6 : Int32) then (0 : Int32) else 1) = 0 from by decide +kernel)) (fun _ => ?_)
    refine v_aload_n C eX12_give_20 rfl 1 rfl ?_
    refine v_iload_n C eX12_give_21 rfl 2 rfl ?_
    refine v_iload C eX12_give_22 4 rfl ?_
    refine v_iadd C eX12_give_24 ?_
    refine v_aload_n C eX12_give_25 rfl 0 rfl ?_
    refine n_callV (As := []) (rest := [.int ((nI a) + (nI i)), .ref (ad ko)]) C I mX12_229 (c_squeeze I hN (σ := va_up σ ko (eB G no (gvF 12 g.1 a i fo))) ((n_ne (by simp at hk2; omega)).trans h11) ((n_ne (by simp at hk2; omega)).trans h12) ((n_ne (by simp at hk2; omega)).trans h6) g.1 g.2.1 g.2.2 W0 Bk0 i tt0 (by omega)) (hN 49 (by decide)) rfl rfl (by decide) (by decide) ⟨by decide, by decide⟩ rfl rfl (Nat.le_of_ble_eq_true rfl) eX12_give_26 (fun r σ' hp => ?_)
    obtain ⟨rfl, rfl⟩ := hp
    have hob : (hσ G ad (va_up σ ko (eB G no (gvF 12 g.1 a i fo))) x 12 (g.1, g.2.1, g.2.2, W0, Bk0, i + 1, tt0)) ko = eB G no (gvF 12 g.1 a i fo) := (hσ_ne hko).trans n_self
    refine v_i2b C eX12_give_29 ?_
    refine n_bast C I eX12_give_30 hkN hob (a + i) (ix_add (a := a) (b := i) (rfl : nI a = nI a) (rfl : nI i = nI i)) (by omega) (by omega) ?_
    refine v_eq (w' := nW ad N (hσ G ad (va_up σ ko (eB G no (gvF 12 g.1 a (i + 1) fo))) x 12 (g.1, g.2.1, g.2.2, W0, Bk0, (i + 1), tt0))) (congrArg (nW ad N) (by rw [hσ_up hko, bx_uu]; rfl)) rfl rfl ?_
    refine v_goto (tgt := 96) C eX12_give_31 (by decide) ?_
    refine v_iinc (lv' := [(0, .ref (ad 49)), (1, .ref (ad ko)), (2, .int (nI a)), (3, .int (nI n)), (4, .int (nI (i + 1)))]) C eX12_give_96 4 rfl (ix_inc _) (by decide) [1, 2, 3, 4, 0] rfl ?_
    refine v_goto (tgt := 7) C eX12_give_99 (by decide) ?_
    exact ih

end M7
