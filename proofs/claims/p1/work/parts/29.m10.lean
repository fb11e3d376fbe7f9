def hs2 (T : Nat → Int32) (Rc K Rt : Nat → Int64) (k nn : Nat) (P A f : Nat → Int32) (a m : Nat) (h : hT) : hT :=
  hPutN T Rc K k f a m (hPutN T Rc K k A 20 12 (hPut T Rc K k (A 19) (hPutN T Rc K k A 8 8 (hPut T Rc K k (A 3) (hZero T Rc K k (rateK k - nn) (hPutN T Rc K k P 0 nn (hBeg k Rt h)))))))
def hr2 (T : Nat → Int32) (Rc K Rt : Nat → Int64) (k nn : Nat) (P A f : Nat → Int32) (a m : Nat) (h : hT) (b : Nat) (g : Nat → Int32) : Nat → Int32 := gvF k (hFin T Rc K k (hs2 T Rc K Rt k nn P A f a m h)).1 b nn g
theorem hZero_lt {T : Nat → Int32} {Rc K : Nat → Int64} {k : Nat} (hk : k = 1 ∨ k = 3 ∨ k = 12) (h : hT) (hf : h.2.2.2.2.2.1 < rateK k) : ∀ n, (hZero T Rc K k n h).2.2.2.2.2.1 < rateK k
  | 0 => hf
  | n + 1 => hPut_lt hk _ _ (hZero_lt hk h hf n)
section M10
variable {G : vG} {B : Nat} {l : Launch} {ad : Nat → Nat} {N : Nat}
set_option maxRecDepth 100000 in
set_option maxHeartbeats 4000000 in
theorem hs_tail1 (I : nI1 ad N) (hN : ∀ k, k < 74 → k < N) {σ : nS} {p : Program} {e : Env} {R : Room} {s : State} {m : MethodId} {args : Array Value} {below : List Frame} {meth : Method} {c : Code} {cells slots : Nat} {Q : State → Prop} (C : vC G B p m meth c cX12_hashed 8 none s args yX12_hashed.cls) {d1 mc1 ms1 : Nat} (hR : R = vRm d1 mc1 ms1) (hdd : 5 ≤ d1) (hrc : cells + 0 ≤ mc1) (hrs : slots + 0 ≤ ms1) {x T : Nat → Int32} {Rc K Rt : Nat → Int64} {P A f fo : Nat → Int32} {kx nx ko no nn : Nat} (h11 : σ 11 = eI G 25 T) (h12 : σ 12 = eJ G 24 Rc) (h6 : σ 6 = eJ G 80 K) (h5 : σ 5 = eJ G 16 Rt) (h37 : σ 37 = eB G 32 P) (h28 : σ 28 = eB G 32 A) (hkx : kx < N) (hkx1 : kx ∉ [13, 14, 15, 16, 17, 49]) (hx : σ kx = eB G nx f) (hko : ko < N) (hko1 : ko ∉ [13, 14, 15, 16, 17, 49]) (hko2 : ko ∉ [6, 11, 12]) (ho : σ ko = eB G no fo) (h41 : x 41 = nI nn) (hnn : nn ≤ 32)  (a mm b : Nat) (ha : a + mm ≤ nx) (hnx : nx < 2 ^ 31) (hb : b + nn ≤ no) (hno : no < 2 ^ 31) (S O D W : Nat → Int64) (Bk : Nat → Int32) (fl : Nat) (tt : Int64) (kk : V G B p l e R s m args below meth c 8 (cells + 0 + 0 + 0 + 0 + 0 + 0 + 0 + 0) (slots + 0 + 0 + 0 + 0 + 0 + 0 + 0 + 0) Q (nW ad N (hσ G ad (va_up σ ko (eB G no (hr2 T Rc K Rt 1 nn P A f a mm (S, O, D, W, Bk, fl, tt) b fo))) x 1 (hFin T Rc K 1 (hs2 T Rc K Rt 1 nn P A f a mm (S, O, D, W, Bk, fl, tt))))) 213 [(0, .ref (ad 49)), (1, .ref (ad kx)), (2, .int (nI a)), (3, .int (nI mm)), (4, .ref (ad ko)), (5, .int (nI b)), (6, .int ((0 : Int32))), (7, .int (nI (nn + (64 - nn))))] []) : V G B p l e R s m args below meth c 8 cells slots Q (nW ad N (gσ G ad σ x (S, O, D, W, Bk, fl, tt))) 87 [(0, .ref (ad 49)), (1, .ref (ad kx)), (2, .int (nI a)), (3, .int (nI mm)), (4, .ref (ad ko)), (5, .int (nI b)), (6, .int ((0 : Int32)))] [] := by
  have hk : 1 = 1 ∨ 1 = 3 ∨ 1 = 12 := by decide
  refine v_aload_n C eX12_hashed_87 rfl 0 rfl ?_
  refine v_iload C eX12_hashed_88 6 rfl ?_
  refine v_if_eq (tgt := 97) C eX12_hashed_90 (by decide) (fun _ => ?_) (fun h => absurd (by decide) h)
  refine v_iconst (v := nI 1) C eX12_hashed_97 (by decide) ?_
  refine n_callV (As := [.int (nI 1)]) (rest := []) C I mX12_166 (c_begin1 I hN h11 h12 h6 h5 S O D W Bk fl tt) (hN 49 (by decide)) rfl hR (by omega) (by decide) ⟨hrc, hrs⟩ rfl rfl (Nat.le_of_ble_eq_true rfl) eX12_hashed_98 (fun r σ' hp => ?_)
  obtain ⟨rfl, rfl⟩ := hp
  have hf0 : (hBeg 1 Rt (S, O, D, W, Bk, fl, tt)).2.2.2.2.2.1 < rateK 1 := by show 0 < rateK 1; decide
  generalize hg0 : hBeg 1 Rt (S, O, D, W, Bk, fl, tt) = g0 at hf0
  refine v_aload_n C eX12_hashed_101 rfl 0 rfl ?_
  refine v_aload_n C eX12_hashed_102 rfl 0 rfl ?_
  refine n_get C I fX12_108_X12 eX12_hashed_103 (hN 49 (by decide)) rfl rfl ?_
  refine v_iconst (v := (0 : Int32)) C eX12_hashed_106 (by decide) ?_
  refine v_aload_n C eX12_hashed_107 rfl 0 rfl ?_
  refine n_get C I fX12_243_X12 eX12_hashed_108 (hN 49 (by decide)) rfl rfl ?_
  refine v_natT h41 ?_
  refine v_eq (st' := [.int (nI nn), .int (nI 0), .ref (ad 37), .ref (ad 49)]) rfl rfl rfl ?_
  refine n_callV (As := [.ref (ad 37), .int (nI 0), .int (nI nn)]) (rest := []) C I mX12_233 (c_putA I hN h11 h12 h6 hk g0 hf0 (hN 37 (by decide)) (by decide) h37 0 nn (by omega) (by decide)) (hN 49 (by decide)) rfl hR (by omega) (by decide) ⟨hrc, hrs⟩ rfl rfl (Nat.le_of_ble_eq_true rfl) eX12_hashed_111 (fun r σ' hp => ?_)
  obtain ⟨rfl, rfl⟩ := hp
  have hf1 := hPutN_lt (T := T) (Rc := Rc) (K := K) hk P 0 g0 hf0 nn
  generalize hg1 : hPutN T Rc K 1 P 0 nn g0 = g1 at hf1
  refine v_aload_n C eX12_hashed_114 rfl 0 rfl ?_
  refine n_get C I fX12_243_X12 eX12_hashed_115 (hN 49 (by decide)) rfl rfl ?_
  refine v_natT h41 ?_
  refine v_istore (lv' := [(0, .ref (ad 49)), (1, .ref (ad kx)), (2, .int (nI a)), (3, .int (nI mm)), (4, .ref (ad ko)), (5, .int (nI b)), (6, .int ((0 : Int32))), (7, .int (nI nn))]) C eX12_hashed_118 (by decide) [1, 2, 3, 4, 5, 6, 7, 0] rfl ?_
  refine v_forV (fun i => hσ G ad σ x 1 (hZero T Rc K 1 i g1)) (fun i => [(0, .ref (ad 49)), (1, .ref (ad kx)), (2, .int (nI a)), (3, .int (nI mm)), (4, .ref (ad ko)), (5, .int (nI b)), (6, .int ((0 : Int32))), (7, .int (nI (nn + i)))]) (64 - nn) ?_ ?_
  · refine v_iload C eX12_hashed_120 7 rfl ?_
    refine v_iload C eX12_hashed_122 6 rfl ?_
    refine v_if_eq (tgt := 133) C eX12_hashed_124 (by decide) (fun _ => ?_) (fun h => absurd (by decide) h)
    refine v_bipush (v := (64 : Int32)) C eX12_hashed_133 (by decide) ?_
    refine v_icmp_ge (tgt := 149) C eX12_hashed_135 (by decide) (fun _ => ?_) (fun h => absurd (ix_le (a := 64) (b := nn + (64 - nn)) (rfl : (64 : Int32) = nI 64) (rfl : nI (nn + (64 - nn)) = nI (nn + (64 - nn))) (by omega) (by omega) (by omega)) h)
    have hf2 := hZero_lt (T := T) (Rc := Rc) (K := K) hk g1 hf1 (64 - nn)
    generalize hg2 : hZero T Rc K 1 (64 - nn) g1 = g2 at hf2 ⊢
    refine v_aload_n C eX12_hashed_149 rfl 0 rfl ?_
    refine v_aload_n C eX12_hashed_150 rfl 0 rfl ?_
    refine n_get C I fX12_81_X12 eX12_hashed_151 (hN 49 (by decide)) rfl rfl ?_
    refine v_iconst (v := (3 : Int32)) C eX12_hashed_154 (by decide) ?_
    refine n_bald C I eX12_hashed_155 (hN 28 (by decide)) h28 3 (rfl : (3 : Int32) = nI 3) (by omega) (by decide) ?_
    refine n_callV (As := [.int (A 3)]) (rest := []) C I mX12_171 (c_put I hN h11 h12 h6 hk g2 hf2 (A 3)) (hN 49 (by decide)) rfl hR (by omega) (by decide) ⟨hrc, hrs⟩ rfl rfl (Nat.le_of_ble_eq_true rfl) eX12_hashed_156 (fun r σ' hp => ?_)
    obtain ⟨rfl, rfl⟩ := hp
    have hf3 := hPut_lt (T := T) (Rc := Rc) (K := K) hk (A 3) g2 hf2
    generalize hg3 : hPut T Rc K 1 (A 3) g2 = g3 at hf3
    refine v_aload_n C eX12_hashed_159 rfl 0 rfl ?_
    refine v_aload_n C eX12_hashed_160 rfl 0 rfl ?_
    refine n_get C I fX12_81_X12 eX12_hashed_161 (hN 49 (by decide)) rfl rfl ?_
    refine v_bipush (v := (8 : Int32)) C eX12_hashed_164 (by decide) ?_
    refine v_bipush (v := (8 : Int32)) C eX12_hashed_166 (by decide) ?_
    refine v_eq (st' := [.int (nI 8), .int (nI 8), .ref (ad 28), .ref (ad 49)]) rfl rfl rfl ?_
    refine n_callV (As := [.ref (ad 28), .int (nI 8), .int (nI 8)]) (rest := []) C I mX12_233 (c_putA I hN h11 h12 h6 hk g3 hf3 (hN 28 (by decide)) (by decide) h28 8 8 (by decide) (by decide)) (hN 49 (by decide)) rfl hR (by omega) (by decide) ⟨hrc, hrs⟩ rfl rfl (Nat.le_of_ble_eq_true rfl) eX12_hashed_168 (fun r σ' hp => ?_)
    obtain ⟨rfl, rfl⟩ := hp
    have hf4 := hPutN_lt (T := T) (Rc := Rc) (K := K) hk A 8 g3 hf3 8
    generalize hg4 : hPutN T Rc K 1 A 8 8 g3 = g4 at hf4
    refine v_aload_n C eX12_hashed_171 rfl 0 rfl ?_
    refine v_aload_n C eX12_hashed_172 rfl 0 rfl ?_
    refine n_get C I fX12_81_X12 eX12_hashed_173 (hN 49 (by decide)) rfl rfl ?_
    refine v_bipush (v := (19 : Int32)) C eX12_hashed_176 (by decide) ?_
    refine n_bald C I eX12_hashed_178 (hN 28 (by decide)) h28 19 (rfl : (19 : Int32) = nI 19) (by omega) (by decide) ?_
    refine n_callV (As := [.int (A 19)]) (rest := []) C I mX12_171 (c_put I hN h11 h12 h6 hk g4 hf4 (A 19)) (hN 49 (by decide)) rfl hR (by omega) (by decide) ⟨hrc, hrs⟩ rfl rfl (Nat.le_of_ble_eq_true rfl) eX12_hashed_179 (fun r σ' hp => ?_)
    obtain ⟨rfl, rfl⟩ := hp
    have hf5 := hPut_lt (T := T) (Rc := Rc) (K := K) hk (A 19) g4 hf4
    generalize hg5 : hPut T Rc K 1 (A 19) g4 = g5 at hf5
    refine v_aload_n C eX12_hashed_182 rfl 0 rfl ?_
    refine v_aload_n C eX12_hashed_183 rfl 0 rfl ?_
    refine n_get C I fX12_81_X12 eX12_hashed_184 (hN 49 (by decide)) rfl rfl ?_
    refine v_bipush (v := (20 : Int32)) C eX12_hashed_187 (by decide) ?_
    refine v_bipush (v := (12 : Int32)) C eX12_hashed_189 (by decide) ?_
    refine v_eq (st' := [.int (nI 12), .int (nI 20), .ref (ad 28), .ref (ad 49)]) rfl rfl rfl ?_
    refine n_callV (As := [.ref (ad 28), .int (nI 20), .int (nI 12)]) (rest := []) C I mX12_233 (c_putA I hN h11 h12 h6 hk g5 hf5 (hN 28 (by decide)) (by decide) h28 20 12 (by decide) (by decide)) (hN 49 (by decide)) rfl hR (by omega) (by decide) ⟨hrc, hrs⟩ rfl rfl (Nat.le_of_ble_eq_true rfl) eX12_hashed_191 (fun r σ' hp => ?_)
    obtain ⟨rfl, rfl⟩ := hp
    have hf6 := hPutN_lt (T := T) (Rc := Rc) (K := K) hk A 20 g5 hf5 12
    generalize hg6 : hPutN T Rc K 1 A 20 12 g5 = g6 at hf6
    refine v_aload_n C eX12_hashed_194 rfl 0 rfl ?_
    refine v_aload_n C eX12_hashed_195 rfl 1 rfl ?_
    refine v_iload_n C eX12_hashed_196 rfl 2 rfl ?_
    refine v_iload_n C eX12_hashed_197 rfl 3 rfl ?_
    refine n_callV (As := [.ref (ad kx), .int (nI a), .int (nI mm)]) (rest := []) C I mX12_233 (c_putA I hN h11 h12 h6 hk g6 hf6 hkx hkx1 hx a mm ha hnx) (hN 49 (by decide)) rfl hR (by omega) (by decide) ⟨hrc, hrs⟩ rfl rfl (Nat.le_of_ble_eq_true rfl) eX12_hashed_198 (fun r σ' hp => ?_)
    obtain ⟨rfl, rfl⟩ := hp
    have hf7 := hPutN_lt (T := T) (Rc := Rc) (K := K) hk f a g6 hf6 mm
    generalize hg7 : hPutN T Rc K 1 f a mm g6 = g7 at hf7
    refine v_aload_n C eX12_hashed_201 rfl 0 rfl ?_
    refine v_aload C eX12_hashed_202 4 rfl ?_
    refine v_iload C eX12_hashed_204 5 rfl ?_
    refine v_aload_n C eX12_hashed_206 rfl 0 rfl ?_
    refine n_get C I fX12_243_X12 eX12_hashed_207 (hN 49 (by decide)) rfl rfl ?_
    refine v_natT h41 ?_
    refine n_callV (As := [.ref (ad ko), .int (nI b), .int (nI nn)]) (rest := []) C I mX12_236 (c_give1 I hN h11 h12 h6 g7 hf7 hko hko1 hko2 ho b nn (by omega) hb hno) (hN 49 (by decide)) rfl hR (by omega) (by decide) ⟨hrc, hrs⟩ rfl rfl (Nat.le_of_ble_eq_true rfl) eX12_hashed_210 (fun r σ' hp => ?_)
    obtain ⟨rfl, rfl⟩ := hp
    rw [← hg7, ← hg6, ← hg5, ← hg4, ← hg3, ← hg2, ← hg1, ← hg0]
    exact kk
  · intro i hi ih
    refine v_iload C eX12_hashed_120 7 rfl ?_
    refine v_iload C eX12_hashed_122 6 rfl ?_
    refine v_if_eq (tgt := 133) C eX12_hashed_124 (by decide) (fun _ => ?_) (fun h => absurd (by decide) h)
    refine v_bipush (v := (64 : Int32)) C eX12_hashed_133 (by decide) ?_
    refine v_icmp_ge (tgt := 149) C eX12_hashed_135 (by decide) (fun h => absurd h (ix_nle (a := 64) (b := nn + i) (rfl : (64 : Int32) = nI 64) (rfl : nI (nn + i) = nI (nn + i)) (by omega) (by omega) (by omega))) (fun _ => ?_)
    refine v_aload_n C eX12_hashed_138 rfl 0 rfl ?_
    refine v_iconst (v := (0 : Int32)) C eX12_hashed_139 (by decide) ?_
    refine n_callV (As := [.int ((0 : Int32))]) (rest := []) C I mX12_171 (c_put I hN h11 h12 h6 hk (hZero T Rc K 1 i g1) (hZero_lt hk g1 hf1 i) 0) (hN 49 (by decide)) rfl hR (by omega) (by decide) ⟨hrc, hrs⟩ rfl rfl (Nat.le_of_ble_eq_true rfl) eX12_hashed_140 (fun r σ' hp => ?_)
    obtain ⟨rfl, rfl⟩ := hp
    refine v_iinc (lv' := [(0, .ref (ad 49)), (1, .ref (ad kx)), (2, .int (nI a)), (3, .int (nI mm)), (4, .ref (ad ko)), (5, .int (nI b)), (6, .int ((0 : Int32))), (7, .int (nI (nn + i + 1)))]) C eX12_hashed_143 7 rfl (ix_inc _) (by decide) [1, 2, 3, 4, 5, 6, 7, 0] rfl ?_
    refine v_goto (tgt := 120) C eX12_hashed_146 (by decide) ?_
    exact ih

set_option maxRecDepth 100000 in
set_option maxHeartbeats 4000000 in
theorem hs_tail3 (I : nI1 ad N) (hN : ∀ k, k < 74 → k < N) {σ : nS} {p : Program} {e : Env} {R : Room} {s : State} {m : MethodId} {args : Array Value} {below : List Frame} {meth : Method} {c : Code} {cells slots : Nat} {Q : State → Prop} (C : vC G B p m meth c cX12_hashed 8 none s args yX12_hashed.cls) {d1 mc1 ms1 : Nat} (hR : R = vRm d1 mc1 ms1) (hdd : 5 ≤ d1) (hrc : cells + 0 ≤ mc1) (hrs : slots + 0 ≤ ms1) {x T : Nat → Int32} {Rc K Rt : Nat → Int64} {P A f fo : Nat → Int32} {kx nx ko no nn : Nat} (h11 : σ 11 = eI G 25 T) (h12 : σ 12 = eJ G 24 Rc) (h6 : σ 6 = eJ G 80 K) (h5 : σ 5 = eJ G 16 Rt) (h37 : σ 37 = eB G 32 P) (h28 : σ 28 = eB G 32 A) (hkx : kx < N) (hkx1 : kx ∉ [13, 14, 15, 16, 17, 49]) (hx : σ kx = eB G nx f) (hko : ko < N) (hko1 : ko ∉ [13, 14, 15, 16, 17, 49]) (hko2 : ko ∉ [6, 11, 12]) (ho : σ ko = eB G no fo) (h41 : x 41 = nI nn) (hnn : nn ≤ 32)  (a mm b : Nat) (ha : a + mm ≤ nx) (hnx : nx < 2 ^ 31) (hb : b + nn ≤ no) (hno : no < 2 ^ 31) (S O D W : Nat → Int64) (Bk : Nat → Int32) (fl : Nat) (tt : Int64) (kk : V G B p l e R s m args below meth c 8 (cells + 0 + 0 + 0 + 0 + 0 + 0 + 0 + 0) (slots + 0 + 0 + 0 + 0 + 0 + 0 + 0 + 0) Q (nW ad N (hσ G ad (va_up σ ko (eB G no (hr2 T Rc K Rt 3 nn P A f a mm (S, O, D, W, Bk, fl, tt) b fo))) x 3 (hFin T Rc K 3 (hs2 T Rc K Rt 3 nn P A f a mm (S, O, D, W, Bk, fl, tt))))) 213 [(0, .ref (ad 49)), (1, .ref (ad kx)), (2, .int (nI a)), (3, .int (nI mm)), (4, .ref (ad ko)), (5, .int (nI b)), (6, .int ((1 : Int32))), (7, .int (nI (nn + (128 - nn))))] []) : V G B p l e R s m args below meth c 8 cells slots Q (nW ad N (gσ G ad σ x (S, O, D, W, Bk, fl, tt))) 87 [(0, .ref (ad 49)), (1, .ref (ad kx)), (2, .int (nI a)), (3, .int (nI mm)), (4, .ref (ad ko)), (5, .int (nI b)), (6, .int ((1 : Int32)))] [] := by
  have hk : 3 = 1 ∨ 3 = 3 ∨ 3 = 12 := by decide
  refine v_aload_n C eX12_hashed_87 rfl 0 rfl ?_
  refine v_iload C eX12_hashed_88 6 rfl ?_
  refine v_if_eq (tgt := 97) C eX12_hashed_90 (by decide) (fun h => absurd h (by decide)) (fun _ => ?_)
  refine v_iconst (v := nI 3) C eX12_hashed_93 (by decide) ?_
  refine v_goto (tgt := 98) C eX12_hashed_94 (by decide) ?_
  refine n_callV (As := [.int (nI 3)]) (rest := []) C I mX12_166 (c_begin3 I hN h11 h12 h6 h5 S O D W Bk fl tt) (hN 49 (by decide)) rfl hR (by omega) (by decide) ⟨hrc, hrs⟩ rfl rfl (Nat.le_of_ble_eq_true rfl) eX12_hashed_98 (fun r σ' hp => ?_)
  obtain ⟨rfl, rfl⟩ := hp
  have hf0 : (hBeg 3 Rt (S, O, D, W, Bk, fl, tt)).2.2.2.2.2.1 < rateK 3 := by show 0 < rateK 3; decide
  generalize hg0 : hBeg 3 Rt (S, O, D, W, Bk, fl, tt) = g0 at hf0
  refine v_aload_n C eX12_hashed_101 rfl 0 rfl ?_
  refine v_aload_n C eX12_hashed_102 rfl 0 rfl ?_
  refine n_get C I fX12_108_X12 eX12_hashed_103 (hN 49 (by decide)) rfl rfl ?_
  refine v_iconst (v := (0 : Int32)) C eX12_hashed_106 (by decide) ?_
  refine v_aload_n C eX12_hashed_107 rfl 0 rfl ?_
  refine n_get C I fX12_243_X12 eX12_hashed_108 (hN 49 (by decide)) rfl rfl ?_
  refine v_natT h41 ?_
  refine v_eq (st' := [.int (nI nn), .int (nI 0), .ref (ad 37), .ref (ad 49)]) rfl rfl rfl ?_
  refine n_callV (As := [.ref (ad 37), .int (nI 0), .int (nI nn)]) (rest := []) C I mX12_233 (c_putA I hN h11 h12 h6 hk g0 hf0 (hN 37 (by decide)) (by decide) h37 0 nn (by omega) (by decide)) (hN 49 (by decide)) rfl hR (by omega) (by decide) ⟨hrc, hrs⟩ rfl rfl (Nat.le_of_ble_eq_true rfl) eX12_hashed_111 (fun r σ' hp => ?_)
  obtain ⟨rfl, rfl⟩ := hp
  have hf1 := hPutN_lt (T := T) (Rc := Rc) (K := K) hk P 0 g0 hf0 nn
  generalize hg1 : hPutN T Rc K 3 P 0 nn g0 = g1 at hf1
  refine v_aload_n C eX12_hashed_114 rfl 0 rfl ?_
  refine n_get C I fX12_243_X12 eX12_hashed_115 (hN 49 (by decide)) rfl rfl ?_
  refine v_natT h41 ?_
  refine v_istore (lv' := [(0, .ref (ad 49)), (1, .ref (ad kx)), (2, .int (nI a)), (3, .int (nI mm)), (4, .ref (ad ko)), (5, .int (nI b)), (6, .int ((1 : Int32))), (7, .int (nI nn))]) C eX12_hashed_118 (by decide) [1, 2, 3, 4, 5, 6, 7, 0] rfl ?_
  refine v_forV (fun i => hσ G ad σ x 3 (hZero T Rc K 3 i g1)) (fun i => [(0, .ref (ad 49)), (1, .ref (ad kx)), (2, .int (nI a)), (3, .int (nI mm)), (4, .ref (ad ko)), (5, .int (nI b)), (6, .int ((1 : Int32))), (7, .int (nI (nn + i)))]) (128 - nn) ?_ ?_
  · refine v_iload C eX12_hashed_120 7 rfl ?_
    refine v_iload C eX12_hashed_122 6 rfl ?_
    refine v_if_eq (tgt := 133) C eX12_hashed_124 (by decide) (fun h => absurd h (by decide)) (fun _ => ?_)
    refine v_sipush (v := (128 : Int32)) C eX12_hashed_127 (by decide) ?_
    refine v_goto (tgt := 135) C eX12_hashed_130 (by decide) ?_
    refine v_icmp_ge (tgt := 149) C eX12_hashed_135 (by decide) (fun _ => ?_) (fun h => absurd (ix_le (a := 128) (b := nn + (128 - nn)) (rfl : (128 : Int32) = nI 128) (rfl : nI (nn + (128 - nn)) = nI (nn + (128 - nn))) (by omega) (by omega) (by omega)) h)
    have hf2 := hZero_lt (T := T) (Rc := Rc) (K := K) hk g1 hf1 (128 - nn)
    generalize hg2 : hZero T Rc K 3 (128 - nn) g1 = g2 at hf2 ⊢
    refine v_aload_n C eX12_hashed_149 rfl 0 rfl ?_
    refine v_aload_n C eX12_hashed_150 rfl 0 rfl ?_
    refine n_get C I fX12_81_X12 eX12_hashed_151 (hN 49 (by decide)) rfl rfl ?_
    refine v_iconst (v := (3 : Int32)) C eX12_hashed_154 (by decide) ?_
    refine n_bald C I eX12_hashed_155 (hN 28 (by decide)) h28 3 (rfl : (3 : Int32) = nI 3) (by omega) (by decide) ?_
    refine n_callV (As := [.int (A 3)]) (rest := []) C I mX12_171 (c_put I hN h11 h12 h6 hk g2 hf2 (A 3)) (hN 49 (by decide)) rfl hR (by omega) (by decide) ⟨hrc, hrs⟩ rfl rfl (Nat.le_of_ble_eq_true rfl) eX12_hashed_156 (fun r σ' hp => ?_)
    obtain ⟨rfl, rfl⟩ := hp
    have hf3 := hPut_lt (T := T) (Rc := Rc) (K := K) hk (A 3) g2 hf2
    generalize hg3 : hPut T Rc K 3 (A 3) g2 = g3 at hf3
    refine v_aload_n C eX12_hashed_159 rfl 0 rfl ?_
    refine v_aload_n C eX12_hashed_160 rfl 0 rfl ?_
    refine n_get C I fX12_81_X12 eX12_hashed_161 (hN 49 (by decide)) rfl rfl ?_
    refine v_bipush (v := (8 : Int32)) C eX12_hashed_164 (by decide) ?_
    refine v_bipush (v := (8 : Int32)) C eX12_hashed_166 (by decide) ?_
    refine v_eq (st' := [.int (nI 8), .int (nI 8), .ref (ad 28), .ref (ad 49)]) rfl rfl rfl ?_
    refine n_callV (As := [.ref (ad 28), .int (nI 8), .int (nI 8)]) (rest := []) C I mX12_233 (c_putA I hN h11 h12 h6 hk g3 hf3 (hN 28 (by decide)) (by decide) h28 8 8 (by decide) (by decide)) (hN 49 (by decide)) rfl hR (by omega) (by decide) ⟨hrc, hrs⟩ rfl rfl (Nat.le_of_ble_eq_true rfl) eX12_hashed_168 (fun r σ' hp => ?_)
    obtain ⟨rfl, rfl⟩ := hp
    have hf4 := hPutN_lt (T := T) (Rc := Rc) (K := K) hk A 8 g3 hf3 8
    generalize hg4 : hPutN T Rc K 3 A 8 8 g3 = g4 at hf4
    refine v_aload_n C eX12_hashed_171 rfl 0 rfl ?_
    refine v_aload_n C eX12_hashed_172 rfl 0 rfl ?_
    refine n_get C I fX12_81_X12 eX12_hashed_173 (hN 49 (by decide)) rfl rfl ?_
    refine v_bipush (v := (19 : Int32)) C eX12_hashed_176 (by decide) ?_
    refine n_bald C I eX12_hashed_178 (hN 28 (by decide)) h28 19 (rfl : (19 : Int32) = nI 19) (by omega) (by decide) ?_
    refine n_callV (As := [.int (A 19)]) (rest := []) C I mX12_171 (c_put I hN h11 h12 h6 hk g4 hf4 (A 19)) (hN 49 (by decide)) rfl hR (by omega) (by decide) ⟨hrc, hrs⟩ rfl rfl (Nat.le_of_ble_eq_true rfl) eX12_hashed_179 (fun r σ' hp => ?_)
    obtain ⟨rfl, rfl⟩ := hp
    have hf5 := hPut_lt (T := T) (Rc := Rc) (K := K) hk (A 19) g4 hf4
    generalize hg5 : hPut T Rc K 3 (A 19) g4 = g5 at hf5
    refine v_aload_n C eX12_hashed_182 rfl 0 rfl ?_
    refine v_aload_n C eX12_hashed_183 rfl 0 rfl ?_
    refine n_get C I fX12_81_X12 eX12_hashed_184 (hN 49 (by decide)) rfl rfl ?_
    refine v_bipush (v := (20 : Int32)) C eX12_hashed_187 (by decide) ?_
    refine v_bipush (v := (12 : Int32)) C eX12_hashed_189 (by decide) ?_
    refine v_eq (st' := [.int (nI 12), .int (nI 20), .ref (ad 28), .ref (ad 49)]) rfl rfl rfl ?_
    refine n_callV (As := [.ref (ad 28), .int (nI 20), .int (nI 12)]) (rest := []) C I mX12_233 (c_putA I hN h11 h12 h6 hk g5 hf5 (hN 28 (by decide)) (by decide) h28 20 12 (by decide) (by decide)) (hN 49 (by decide)) rfl hR (by omega) (by decide) ⟨hrc, hrs⟩ rfl rfl (Nat.le_of_ble_eq_true rfl) eX12_hashed_191 (fun r σ' hp => ?_)
    obtain ⟨rfl, rfl⟩ := hp
    have hf6 := hPutN_lt (T := T) (Rc := Rc) (K := K) hk A 20 g5 hf5 12
    generalize hg6 : hPutN T Rc K 3 A 20 12 g5 = g6 at hf6
    refine v_aload_n C eX12_hashed_194 rfl 0 rfl ?_
    refine v_aload_n C eX12_hashed_195 rfl 1 rfl ?_
    refine v_iload_n C eX12_hashed_196 rfl 2 rfl ?_
    refine v_iload_n C eX12_hashed_197 rfl 3 rfl ?_
    refine n_callV (As := [.ref (ad kx), .int (nI a), .int (nI mm)]) (rest := []) C I mX12_233 (c_putA I hN h11 h12 h6 hk g6 hf6 hkx hkx1 hx a mm ha hnx) (hN 49 (by decide)) rfl hR (by omega) (by decide) ⟨hrc, hrs⟩ rfl rfl (Nat.le_of_ble_eq_true rfl) eX12_hashed_198 (fun r σ' hp => ?_)
    obtain ⟨rfl, rfl⟩ := hp
    have hf7 := hPutN_lt (T := T) (Rc := Rc) (K := K) hk f a g6 hf6 mm
    generalize hg7 : hPutN T Rc K 3 f a mm g6 = g7 at hf7
    refine v_aload_n C eX12_hashed_201 rfl 0 rfl ?_
    refine v_aload C eX12_hashed_202 4 rfl ?_
    refine v_iload C eX12_hashed_204 5 rfl ?_
    refine v_aload_n C eX12_hashed_206 rfl 0 rfl ?_
    refine n_get C I fX12_243_X12 eX12_hashed_207 (hN 49 (by decide)) rfl rfl ?_
    refine v_natT h41 ?_
    refine n_callV (As := [.ref (ad ko), .int (nI b), .int (nI nn)]) (rest := []) C I mX12_236 (c_give3 I hN h11 h12 h6 g7 hf7 hko hko1 hko2 ho b nn (by omega) hb hno) (hN 49 (by decide)) rfl hR (by omega) (by decide) ⟨hrc, hrs⟩ rfl rfl (Nat.le_of_ble_eq_true rfl) eX12_hashed_210 (fun r σ' hp => ?_)
    obtain ⟨rfl, rfl⟩ := hp
    rw [← hg7, ← hg6, ← hg5, ← hg4, ← hg3, ← hg2, ← hg1, ← hg0]
    exact kk
  · intro i hi ih
    refine v_iload C eX12_hashed_120 7 rfl ?_
    refine v_iload C eX12_hashed_122 6 rfl ?_
    refine v_if_eq (tgt := 133) C eX12_hashed_124 (by decide) (fun h => absurd h (by decide)) (fun _ => ?_)
    refine v_sipush (v := (128 : Int32)) C eX12_hashed_127 (by decide) ?_
    refine v_goto (tgt := 135) C eX12_hashed_130 (by decide) ?_
    refine v_icmp_ge (tgt := 149) C eX12_hashed_135 (by decide) (fun h => absurd h (ix_nle (a := 128) (b := nn + i) (rfl : (128 : Int32) = nI 128) (rfl : nI (nn + i) = nI (nn + i)) (by omega) (by omega) (by omega))) (fun _ => ?_)
    refine v_aload_n C eX12_hashed_138 rfl 0 rfl ?_
    refine v_iconst (v := (0 : Int32)) C eX12_hashed_139 (by decide) ?_
    refine n_callV (As := [.int ((0 : Int32))]) (rest := []) C I mX12_171 (c_put I hN h11 h12 h6 hk (hZero T Rc K 3 i g1) (hZero_lt hk g1 hf1 i) 0) (hN 49 (by decide)) rfl hR (by omega) (by decide) ⟨hrc, hrs⟩ rfl rfl (Nat.le_of_ble_eq_true rfl) eX12_hashed_140 (fun r σ' hp => ?_)
    obtain ⟨rfl, rfl⟩ := hp
    refine v_iinc (lv' := [(0, .ref (ad 49)), (1, .ref (ad kx)), (2, .int (nI a)), (3, .int (nI mm)), (4, .ref (ad ko)), (5, .int (nI b)), (6, .int ((1 : Int32))), (7, .int (nI (nn + i + 1)))]) C eX12_hashed_143 7 rfl (ix_inc _) (by decide) [1, 2, 3, 4, 5, 6, 7, 0] rfl ?_
    refine v_goto (tgt := 120) C eX12_hashed_146 (by decide) ?_
    exact ih

end M10
