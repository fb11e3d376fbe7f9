theorem eX12_hashed_0 : vD cX12_hashed 0 (.aload_n 0) 1 1 := ⟨by decide +kernel, rfl⟩
theorem eX12_hashed_1 : vD cX12_hashed 1 (.getfield 264) 3 4 := ⟨by decide +kernel, rfl⟩
theorem eX12_hashed_4 : vD cX12_hashed 4 (.ifCond .eq 36) 3 7 := ⟨by decide +kernel, rfl⟩
theorem eX12_hashed_7 : vD cX12_hashed 7 (.aload_n 0) 1 8 := ⟨by decide +kernel, rfl⟩
theorem eX12_hashed_8 : vD cX12_hashed 8 (.bipush 12) 2 10 := ⟨by decide +kernel, rfl⟩
theorem eX12_hashed_10 : vD cX12_hashed 10 (.invokevirtual 166) 3 13 := ⟨by decide +kernel, rfl⟩
theorem eX12_hashed_13 : vD cX12_hashed 13 (.aload_n 0) 1 14 := ⟨by decide +kernel, rfl⟩
theorem eX12_hashed_14 : vD cX12_hashed 14 (.aload_n 0) 1 15 := ⟨by decide +kernel, rfl⟩
theorem eX12_hashed_15 : vD cX12_hashed 15 (.getfield 108) 3 18 := ⟨by decide +kernel, rfl⟩
theorem eX12_hashed_18 : vD cX12_hashed 18 (.iconst 0) 1 19 := ⟨by decide +kernel, rfl⟩
theorem eX12_hashed_19 : vD cX12_hashed 19 (.aload_n 0) 1 20 := ⟨by decide +kernel, rfl⟩
theorem eX12_hashed_20 : vD cX12_hashed 20 (.getfield 243) 3 23 := ⟨by decide +kernel, rfl⟩
theorem eX12_hashed_23 : vD cX12_hashed 23 (.invokevirtual 233) 3 26 := ⟨by decide +kernel, rfl⟩
theorem eX12_hashed_26 : vD cX12_hashed 26 (.aload_n 0) 1 27 := ⟨by decide +kernel, rfl⟩
theorem eX12_hashed_27 : vD cX12_hashed 27 (.aload_n 0) 1 28 := ⟨by decide +kernel, rfl⟩
theorem eX12_hashed_28 : vD cX12_hashed 28 (.getfield 81) 3 31 := ⟨by decide +kernel, rfl⟩
theorem eX12_hashed_31 : vD cX12_hashed 31 (.iconst 0) 1 32 := ⟨by decide +kernel, rfl⟩
theorem eX12_hashed_32 : vD cX12_hashed 32 (.bipush 32) 2 34 := ⟨by decide +kernel, rfl⟩
theorem eX12_hashed_34 : vD cX12_hashed 34 (.invokevirtual 233) 3 37 := ⟨by decide +kernel, rfl⟩
theorem eX12_hashed_37 : vD cX12_hashed 37 (.goto 157) 3 40 := ⟨by decide +kernel, rfl⟩
theorem eX12_hashed_40 : vD cX12_hashed 40 (.aload_n 0) 1 41 := ⟨by decide +kernel, rfl⟩
theorem eX12_hashed_41 : vD cX12_hashed 41 (.getfield 243) 3 44 := ⟨by decide +kernel, rfl⟩
theorem eX12_hashed_44 : vD cX12_hashed 44 (.bipush 16) 2 46 := ⟨by decide +kernel, rfl⟩
theorem eX12_hashed_46 : vD cX12_hashed 46 (.if_icmp .le 38) 3 49 := ⟨by decide +kernel, rfl⟩
theorem eX12_hashed_49 : vD cX12_hashed 49 (.iload_n 3) 1 50 := ⟨by decide +kernel, rfl⟩
theorem eX12_hashed_50 : vD cX12_hashed 50 (.aload_n 0) 1 51 := ⟨by decide +kernel, rfl⟩
theorem eX12_hashed_51 : vD cX12_hashed 51 (.getfield 243) 3 54 := ⟨by decide +kernel, rfl⟩
theorem eX12_hashed_54 : vD cX12_hashed 54 (.if_icmp .le 30) 3 57 := ⟨by decide +kernel, rfl⟩
theorem eX12_hashed_57 : vD cX12_hashed 57 (.aload_n 0) 1 58 := ⟨by decide +kernel, rfl⟩
theorem eX12_hashed_58 : vD cX12_hashed 58 (.getfield 81) 3 61 := ⟨by decide +kernel, rfl⟩
theorem eX12_hashed_61 : vD cX12_hashed 61 (.bipush 19) 2 63 := ⟨by decide +kernel, rfl⟩
theorem eX12_hashed_63 : vD cX12_hashed 63 .baload 1 64 := ⟨by decide +kernel, rfl⟩
theorem eX12_hashed_64 : vD cX12_hashed 64 (.iconst 5) 1 65 := ⟨by decide +kernel, rfl⟩
theorem eX12_hashed_65 : vD cX12_hashed 65 (.if_icmp .eq 19) 3 68 := ⟨by decide +kernel, rfl⟩
theorem eX12_hashed_68 : vD cX12_hashed 68 (.aload_n 0) 1 69 := ⟨by decide +kernel, rfl⟩
theorem eX12_hashed_69 : vD cX12_hashed 69 (.getfield 81) 3 72 := ⟨by decide +kernel, rfl⟩
theorem eX12_hashed_72 : vD cX12_hashed 72 (.bipush 19) 2 74 := ⟨by decide +kernel, rfl⟩
theorem eX12_hashed_74 : vD cX12_hashed 74 .baload 1 75 := ⟨by decide +kernel, rfl⟩
theorem eX12_hashed_75 : vD cX12_hashed 75 (.bipush 6) 2 77 := ⟨by decide +kernel, rfl⟩
theorem eX12_hashed_77 : vD cX12_hashed 77 (.if_icmp .eq 7) 3 80 := ⟨by decide +kernel, rfl⟩
theorem eX12_hashed_80 : vD cX12_hashed 80 (.iconst 1) 1 81 := ⟨by decide +kernel, rfl⟩
theorem eX12_hashed_81 : vD cX12_hashed 81 (.goto 4) 3 84 := ⟨by decide +kernel, rfl⟩
theorem eX12_hashed_84 : vD cX12_hashed 84 (.iconst 0) 1 85 := ⟨by decide +kernel, rfl⟩
theorem eX12_hashed_85 : vD cX12_hashed 85 (.istore 6) 2 87 := ⟨by decide +kernel, rfl⟩
theorem eX12_hashed_87 : vD cX12_hashed 87 (.aload_n 0) 1 88 := ⟨by decide +kernel, rfl⟩
theorem eX12_hashed_88 : vD cX12_hashed 88 (.iload 6) 2 90 := ⟨by decide +kernel, rfl⟩
theorem eX12_hashed_90 : vD cX12_hashed 90 (.ifCond .eq 7) 3 93 := ⟨by decide +kernel, rfl⟩
theorem eX12_hashed_93 : vD cX12_hashed 93 (.iconst 3) 1 94 := ⟨by decide +kernel, rfl⟩
theorem eX12_hashed_94 : vD cX12_hashed 94 (.goto 4) 3 97 := ⟨by decide +kernel, rfl⟩
theorem eX12_hashed_97 : vD cX12_hashed 97 (.iconst 1) 1 98 := ⟨by decide +kernel, rfl⟩
theorem eX12_hashed_98 : vD cX12_hashed 98 (.invokevirtual 166) 3 101 := ⟨by decide +kernel, rfl⟩
theorem eX12_hashed_101 : vD cX12_hashed 101 (.aload_n 0) 1 102 := ⟨by decide +kernel, rfl⟩
theorem eX12_hashed_102 : vD cX12_hashed 102 (.aload_n 0) 1 103 := ⟨by decide +kernel, rfl⟩
theorem eX12_hashed_103 : vD cX12_hashed 103 (.getfield 108) 3 106 := ⟨by decide +kernel, rfl⟩
theorem eX12_hashed_106 : vD cX12_hashed 106 (.iconst 0) 1 107 := ⟨by decide +kernel, rfl⟩
theorem eX12_hashed_107 : vD cX12_hashed 107 (.aload_n 0) 1 108 := ⟨by decide +kernel, rfl⟩
theorem eX12_hashed_108 : vD cX12_hashed 108 (.getfield 243) 3 111 := ⟨by decide +kernel, rfl⟩
theorem eX12_hashed_111 : vD cX12_hashed 111 (.invokevirtual 233) 3 114 := ⟨by decide +kernel, rfl⟩
theorem eX12_hashed_114 : vD cX12_hashed 114 (.aload_n 0) 1 115 := ⟨by decide +kernel, rfl⟩
theorem eX12_hashed_115 : vD cX12_hashed 115 (.getfield 243) 3 118 := ⟨by decide +kernel, rfl⟩
theorem eX12_hashed_118 : vD cX12_hashed 118 (.istore 7) 2 120 := ⟨by decide +kernel, rfl⟩
theorem eX12_hashed_120 : vD cX12_hashed 120 (.iload 7) 2 122 := ⟨by decide +kernel, rfl⟩
theorem eX12_hashed_122 : vD cX12_hashed 122 (.iload 6) 2 124 := ⟨by decide +kernel, rfl⟩
theorem eX12_hashed_124 : vD cX12_hashed 124 (.ifCond .eq 9) 3 127 := ⟨by decide +kernel, rfl⟩
theorem eX12_hashed_127 : vD cX12_hashed 127 (.sipush 128) 3 130 := ⟨by decide +kernel, rfl⟩
theorem eX12_hashed_130 : vD cX12_hashed 130 (.goto 5) 3 133 := ⟨by decide +kernel, rfl⟩
theorem eX12_hashed_133 : vD cX12_hashed 133 (.bipush 64) 2 135 := ⟨by decide +kernel, rfl⟩
theorem eX12_hashed_135 : vD cX12_hashed 135 (.if_icmp .ge 14) 3 138 := ⟨by decide +kernel, rfl⟩
theorem eX12_hashed_138 : vD cX12_hashed 138 (.aload_n 0) 1 139 := ⟨by decide +kernel, rfl⟩
theorem eX12_hashed_139 : vD cX12_hashed 139 (.iconst 0) 1 140 := ⟨by decide +kernel, rfl⟩
theorem eX12_hashed_140 : vD cX12_hashed 140 (.invokevirtual 171) 3 143 := ⟨by decide +kernel, rfl⟩
theorem eX12_hashed_143 : vD cX12_hashed 143 (.iinc 7 1) 3 146 := ⟨by decide +kernel, rfl⟩
theorem eX12_hashed_146 : vD cX12_hashed 146 (.goto (-26)) 3 149 := ⟨by decide +kernel, rfl⟩
theorem eX12_hashed_149 : vD cX12_hashed 149 (.aload_n 0) 1 150 := ⟨by decide +kernel, rfl⟩
theorem eX12_hashed_150 : vD cX12_hashed 150 (.aload_n 0) 1 151 := ⟨by decide +kernel, rfl⟩
theorem eX12_hashed_151 : vD cX12_hashed 151 (.getfield 81) 3 154 := ⟨by decide +kernel, rfl⟩
theorem eX12_hashed_154 : vD cX12_hashed 154 (.iconst 3) 1 155 := ⟨by decide +kernel, rfl⟩
theorem eX12_hashed_155 : vD cX12_hashed 155 .baload 1 156 := ⟨by decide +kernel, rfl⟩
theorem eX12_hashed_156 : vD cX12_hashed 156 (.invokevirtual 171) 3 159 := ⟨by decide +kernel, rfl⟩
theorem eX12_hashed_159 : vD cX12_hashed 159 (.aload_n 0) 1 160 := ⟨by decide +kernel, rfl⟩
theorem eX12_hashed_160 : vD cX12_hashed 160 (.aload_n 0) 1 161 := ⟨by decide +kernel, rfl⟩
theorem eX12_hashed_161 : vD cX12_hashed 161 (.getfield 81) 3 164 := ⟨by decide +kernel, rfl⟩
theorem eX12_hashed_164 : vD cX12_hashed 164 (.bipush 8) 2 166 := ⟨by decide +kernel, rfl⟩
theorem eX12_hashed_166 : vD cX12_hashed 166 (.bipush 8) 2 168 := ⟨by decide +kernel, rfl⟩
theorem eX12_hashed_168 : vD cX12_hashed 168 (.invokevirtual 233) 3 171 := ⟨by decide +kernel, rfl⟩
theorem eX12_hashed_171 : vD cX12_hashed 171 (.aload_n 0) 1 172 := ⟨by decide +kernel, rfl⟩
theorem eX12_hashed_172 : vD cX12_hashed 172 (.aload_n 0) 1 173 := ⟨by decide +kernel, rfl⟩
theorem eX12_hashed_173 : vD cX12_hashed 173 (.getfield 81) 3 176 := ⟨by decide +kernel, rfl⟩
theorem eX12_hashed_176 : vD cX12_hashed 176 (.bipush 19) 2 178 := ⟨by decide +kernel, rfl⟩
theorem eX12_hashed_178 : vD cX12_hashed 178 .baload 1 179 := ⟨by decide +kernel, rfl⟩
theorem eX12_hashed_179 : vD cX12_hashed 179 (.invokevirtual 171) 3 182 := ⟨by decide +kernel, rfl⟩
theorem eX12_hashed_182 : vD cX12_hashed 182 (.aload_n 0) 1 183 := ⟨by decide +kernel, rfl⟩
theorem eX12_hashed_183 : vD cX12_hashed 183 (.aload_n 0) 1 184 := ⟨by decide +kernel, rfl⟩
theorem eX12_hashed_184 : vD cX12_hashed 184 (.getfield 81) 3 187 := ⟨by decide +kernel, rfl⟩
theorem eX12_hashed_187 : vD cX12_hashed 187 (.bipush 20) 2 189 := ⟨by decide +kernel, rfl⟩
theorem eX12_hashed_189 : vD cX12_hashed 189 (.bipush 12) 2 191 := ⟨by decide +kernel, rfl⟩
theorem eX12_hashed_191 : vD cX12_hashed 191 (.invokevirtual 233) 3 194 := ⟨by decide +kernel, rfl⟩
theorem eX12_hashed_194 : vD cX12_hashed 194 (.aload_n 0) 1 195 := ⟨by decide +kernel, rfl⟩
theorem eX12_hashed_195 : vD cX12_hashed 195 (.aload_n 1) 1 196 := ⟨by decide +kernel, rfl⟩
theorem eX12_hashed_196 : vD cX12_hashed 196 (.iload_n 2) 1 197 := ⟨by decide +kernel, rfl⟩
theorem eX12_hashed_197 : vD cX12_hashed 197 (.iload_n 3) 1 198 := ⟨by decide +kernel, rfl⟩
theorem eX12_hashed_198 : vD cX12_hashed 198 (.invokevirtual 233) 3 201 := ⟨by decide +kernel, rfl⟩
theorem eX12_hashed_201 : vD cX12_hashed 201 (.aload_n 0) 1 202 := ⟨by decide +kernel, rfl⟩
theorem eX12_hashed_202 : vD cX12_hashed 202 (.aload 4) 2 204 := ⟨by decide +kernel, rfl⟩
theorem eX12_hashed_204 : vD cX12_hashed 204 (.iload 5) 2 206 := ⟨by decide +kernel, rfl⟩
theorem eX12_hashed_206 : vD cX12_hashed 206 (.aload_n 0) 1 207 := ⟨by decide +kernel, rfl⟩
theorem eX12_hashed_207 : vD cX12_hashed 207 (.getfield 243) 3 210 := ⟨by decide +kernel, rfl⟩
theorem eX12_hashed_210 : vD cX12_hashed 210 (.invokevirtual 236) 3 213 := ⟨by decide +kernel, rfl⟩
theorem eX12_hashed_213 : vD cX12_hashed 213 .return_ 1 214 := ⟨by decide +kernel, rfl⟩

/-- a hash over publicSeed, the address and the row's part: what stands behind it (kind 12) -/
def hs12 (T : Nat → Int32) (Rc K Rt : Nat → Int64) (nn : Nat) (P A f : Nat → Int32) (a m : Nat) (h : hT) : hT := hPutN T Rc K 12 f a m (hPutN T Rc K 12 A 0 32 (hPutN T Rc K 12 P 0 nn (hBeg 12 Rt h)))
/-- what comes of it from a place on -/
def hr12 (T : Nat → Int32) (Rc K Rt : Nat → Int64) (nn : Nat) (P A f : Nat → Int32) (a m : Nat) (h : hT) (b : Nat) (g : Nat → Int32) : Nat → Int32 := gvF 12 (hFin T Rc K 12 (hs12 T Rc K Rt nn P A f a m h)).1 b nn g
section M9
variable {G : vG} {B : Nat} {l : Launch} {ad : Nat → Nat} {N : Nat}
theorem n_ag {x : Nat → Int32} {u v w : Int32} : ∀ j, j ≠ 18 → j ≠ 19 → j ≠ 20 → upd (upd (upd x 18 u) 19 v) 20 w j = x j := fun j h1 h2 h3 => by simp [upd, h1, h2, h3]
set_option maxRecDepth 100000 in
set_option maxHeartbeats 4000000 in
theorem c_hashed12 (I : nI1 ad N) (hN : ∀ k, k < 74 → k < N) {σ : nS} {x T : Nat → Int32} {Rc K Rt : Nat → Int64} {P A f fo : Nat → Int32} {kx nx ko no nn : Nat} (h11 : σ 11 = eI G 25 T) (h12 : σ 12 = eJ G 24 Rc) (h6 : σ 6 = eJ G 80 K) (h5 : σ 5 = eJ G 16 Rt) (h37 : σ 37 = eB G 32 P) (h28 : σ 28 = eB G 32 A) (hkx : kx < N) (hkx1 : kx ∉ [13, 14, 15, 16, 17, 49]) (hx : σ kx = eB G nx f) (hko : ko < N) (hko1 : ko ∉ [13, 14, 15, 16, 17, 49]) (hko2 : ko ∉ [6, 11, 12]) (ho : σ ko = eB G no fo) (h41 : x 41 = nI nn) (hnn : nn ≤ 32) (a mm b : Nat) (ha : a + mm ≤ nx) (hnx : nx < 2 ^ 31) (hb : b + nn ≤ no) (hno : no < 2 ^ 31) (h48 : x 48 = 1) (S O D W : Nat → Int64) (Bk : Nat → Int32) (fl : Nat) (tt : Int64) : nOk G B l ad N yX12_hashed cX12_hashed 8 none 5 0 0 [.ref (ad 49), .ref (ad kx), .int (nI a), .int (nI mm), .ref (ad ko), .int (nI b)] (gσ G ad σ x (S, O, D, W, Bk, fl, tt)) (fun r σ' => r = none ∧ ∃ (x' : Nat → Int32) (h' : hT), (∀ j, j ≠ 18 → j ≠ 19 → j ≠ 20 → x' j = x j) ∧ σ' = gσ G ad (va_up σ ko (eB G no (hr12 T Rc K Rt nn P A f a mm (S, O, D, W, Bk, fl, tt) b fo))) x' h') := by
  refine vOk.of (by decide +kernel) (Nat.le_of_ble_eq_true rfl) ?_
  intro p e s m args below meth c C
  refine v_eq (lv' := [(0, .ref (ad 49)), (1, .ref (ad kx)), (2, .int (nI a)), (3, .int (nI mm)), (4, .ref (ad ko)), (5, .int (nI b))]) rfl rfl rfl ?_
  have hk : 12 = 1 ∨ 12 = 3 ∨ 12 = 12 := by decide
  refine v_aload_n C eX12_hashed_0 rfl 0 rfl ?_
  refine n_get C I fX12_264_X12 eX12_hashed_1 (hN 49 (by decide)) rfl rfl ?_
  refine v_if_eq (tgt := 40) C eX12_hashed_4 (by decide) (fun h => absurd h (by rw [h48]; decide)) (fun _ => ?_)
  refine v_aload_n C eX12_hashed_7 rfl 0 rfl ?_
  refine v_bipush (v := nI 12) C eX12_hashed_8 (by decide) ?_
  refine n_callV (As := [.int (nI 12)]) (rest := []) C I mX12_166 (c_begin12 I hN h11 h12 h6 h5 S O D W Bk fl tt) (hN 49 (by decide)) rfl rfl (by decide) (by decide) ⟨by decide, by decide⟩ rfl rfl (Nat.le_of_ble_eq_true rfl) eX12_hashed_10 (fun r σ' hp => ?_)
  obtain ⟨rfl, rfl⟩ := hp
  have hf0 : (hBeg 12 Rt (S, O, D, W, Bk, fl, tt)).2.2.2.2.2.1 < rateK 12 := by show 0 < rateK 12; decide
  generalize hg0 : hBeg 12 Rt (S, O, D, W, Bk, fl, tt) = g0 at hf0
  refine v_aload_n C eX12_hashed_13 rfl 0 rfl ?_
  refine v_aload_n C eX12_hashed_14 rfl 0 rfl ?_
  refine n_get C I fX12_108_X12 eX12_hashed_15 (hN 49 (by decide)) rfl rfl ?_
  refine v_iconst (v := (0 : Int32)) C eX12_hashed_18 (by decide) ?_
  refine v_aload_n C eX12_hashed_19 rfl 0 rfl ?_
  refine n_get C I fX12_243_X12 eX12_hashed_20 (hN 49 (by decide)) rfl rfl ?_
  refine v_natT h41 ?_
  refine v_eq (st' := [.int (nI nn), .int (nI 0), .ref (ad 37), .ref (ad 49)]) rfl rfl rfl ?_
  refine n_callV (As := [.ref (ad 37), .int (nI 0), .int (nI nn)]) (rest := []) C I mX12_233 (c_putA I hN h11 h12 h6 hk g0 hf0 (hN 37 (by decide)) (by decide) h37 0 nn (by omega) (by decide)) (hN 49 (by decide)) rfl rfl (by decide) (by decide) ⟨by decide, by decide⟩ rfl rfl (Nat.le_of_ble_eq_true rfl) eX12_hashed_23 (fun r σ' hp => ?_)
  obtain ⟨rfl, rfl⟩ := hp
  have hf1 := hPutN_lt (T := T) (Rc := Rc) (K := K) hk P 0 g0 hf0 nn
  generalize hg1 : hPutN T Rc K 12 P 0 nn g0 = g1 at hf1
  refine v_aload_n C eX12_hashed_26 rfl 0 rfl ?_
  refine v_aload_n C eX12_hashed_27 rfl 0 rfl ?_
  refine n_get C I fX12_81_X12 eX12_hashed_28 (hN 49 (by decide)) rfl rfl ?_
  refine v_iconst (v := (0 : Int32)) C eX12_hashed_31 (by decide) ?_
  refine v_bipush (v := (32 : Int32)) C eX12_hashed_32 (by decide) ?_
  refine v_eq (st' := [.int (nI 32), .int (nI 0), .ref (ad 28), .ref (ad 49)]) rfl rfl rfl ?_
  refine n_callV (As := [.ref (ad 28), .int (nI 0), .int (nI 32)]) (rest := []) C I mX12_233 (c_putA I hN h11 h12 h6 hk g1 hf1 (hN 28 (by decide)) (by decide) h28 0 32 (by decide) (by decide)) (hN 49 (by decide)) rfl rfl (by decide) (by decide) ⟨by decide, by decide⟩ rfl rfl (Nat.le_of_ble_eq_true rfl) eX12_hashed_34 (fun r σ' hp => ?_)
  obtain ⟨rfl, rfl⟩ := hp
  have hf2 := hPutN_lt (T := T) (Rc := Rc) (K := K) hk A 0 g1 hf1 32
  generalize hg2 : hPutN T Rc K 12 A 0 32 g1 = g2 at hf2
  refine v_goto (tgt := 194) C eX12_hashed_37 (by decide) ?_
  refine v_aload_n C eX12_hashed_194 rfl 0 rfl ?_
  refine v_aload_n C eX12_hashed_195 rfl 1 rfl ?_
  refine v_iload_n C eX12_hashed_196 rfl 2 rfl ?_
  refine v_iload_n C eX12_hashed_197 rfl 3 rfl ?_
  refine n_callV (As := [.ref (ad kx), .int (nI a), .int (nI mm)]) (rest := []) C I mX12_233 (c_putA I hN h11 h12 h6 hk g2 hf2 hkx hkx1 hx a mm ha hnx) (hN 49 (by decide)) rfl rfl (by decide) (by decide) ⟨by decide, by decide⟩ rfl rfl (Nat.le_of_ble_eq_true rfl) eX12_hashed_198 (fun r σ' hp => ?_)
  obtain ⟨rfl, rfl⟩ := hp
  have hf3 := hPutN_lt (T := T) (Rc := Rc) (K := K) hk f a g2 hf2 mm
  generalize hg3 : hPutN T Rc K 12 f a mm g2 = g3 at hf3
  refine v_aload_n C eX12_hashed_201 rfl 0 rfl ?_
  refine v_aload C eX12_hashed_202 4 rfl ?_
  refine v_iload C eX12_hashed_204 5 rfl ?_
  refine v_aload_n C eX12_hashed_206 rfl 0 rfl ?_
  refine n_get C I fX12_243_X12 eX12_hashed_207 (hN 49 (by decide)) rfl rfl ?_
  refine v_natT h41 ?_
  refine n_callV (As := [.ref (ad ko), .int (nI b), .int (nI nn)]) (rest := []) C I mX12_236 (c_give12 I hN h11 h12 h6 g3 hf3 hko hko1 hko2 ho b nn (by omega) hb hno) (hN 49 (by decide)) rfl rfl (by decide) (by decide) ⟨by decide, by decide⟩ rfl rfl (Nat.le_of_ble_eq_true rfl) eX12_hashed_210 (fun r σ' hp => ?_)
  obtain ⟨rfl, rfl⟩ := hp
  exact n_vret C rfl eX12_hashed_213 ⟨rfl, _, _, n_ag, by rw [← hg3, ← hg2, ← hg1, ← hg0]; rfl⟩

end M9
