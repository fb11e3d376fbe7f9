theorem ab_top {P : Nat → Nat} {k n num : Nat} (hk : k = 2 ∨ k = 3) (hP : ∀ i, i < 16 → P i < 65536) (hv : vl P 16 = n) (hn : n < 2 ^ (16 * (4 * k + 2))) : (num * 2 ^ (64 * k) < n) ↔ (num < P (4 * k) + P (4 * k + 1) * 65536 ∨ (num = P (4 * k) + P (4 * k + 1) * 65536 ∧ vl P (4 * k) ≠ 0)) := by
  have h1 : vl P 16 = vl P (4 * k + 2) := vl_split 16 (by omega) (fun i h1 h2 => vl_hi (n := 16) (m := 4 * k + 2) (by rw [hv]; exact hn) h2 h1)
  have h2 : vl P (4 * k + 2) = vl P (4 * k) + P (4 * k) * 2 ^ (16 * (4 * k)) + P (4 * k + 1) * 2 ^ (16 * (4 * k + 1)) := rfl
  have h3 := vl_lt (P := P) (4 * k) (fun i hi => hP i (by omega))
  have e1 : (2 : Nat) ^ (16 * (4 * k + 1)) = 65536 * 2 ^ (64 * k) := by rw [show 16 * (4 * k + 1) = 16 + 64 * k by omega, Nat.pow_add]
  have e2 : (2 : Nat) ^ (16 * (4 * k)) = 2 ^ (64 * k) := by rw [show 16 * (4 * k) = 64 * k by omega]
  rw [e2] at h3
  rw [e1, e2, ← Nat.mul_assoc, Nat.add_assoc, ← Nat.add_mul] at h2
  rw [← hv, h1, h2]
  generalize P (4 * k) + P (4 * k + 1) * 65536 = top
  generalize vl P (4 * k) = low at h3
  generalize (2 : Nat) ^ (64 * k) = X at h3
  constructor
  · intro h
    by_cases q : num < top
    · exact Or.inl q
    · right
      have h4 : top * X ≤ num * X := Nat.mul_le_mul_right _ (by omega)
      by_cases q2 : num = top
      · subst q2
        exact ⟨rfl, by omega⟩
      · have h5 : (top + 1) * X ≤ num * X := Nat.mul_le_mul_right _ (by omega)
        rw [Nat.succ_mul] at h5
        omega
  · rintro (h | ⟨h, g⟩)
    · have h5 : (num + 1) * X ≤ top * X := Nat.mul_le_mul_right _ (by omega)
      rw [Nat.succ_mul] at h5
      omega
    · subst h
      omega
section M42
variable {G : vG} {B : Nat} {l : Launch} {ad : Nat → Nat} {N : Nat} {σ : nS} {x : Nat → Int32} {t : Int64}
theorem ab_fl {P : Nat → Nat} {j : Nat} : (if vl P (j + 1) = 0 then (0 : Int32) else 1) = if P j = 0 then (if vl P j = 0 then 0 else 1) else 1 := by
  have e : vl P (j + 1) = vl P j + P j * 2 ^ (16 * j) := rfl
  have hp : 0 < 2 ^ (16 * j) := Nat.two_pow_pos _
  rw [e]
  by_cases h : P j = 0
  · rw [if_pos h, h, Nat.zero_mul, Nat.add_zero]
  · have : 0 < P j * 2 ^ (16 * j) := Nat.mul_pos (by omega) hp
    rw [if_neg h, if_neg (by omega)]
set_option maxRecDepth 100000 in
set_option maxHeartbeats 4000000 in
theorem ab_E (I : nI1 ad N) (hN : ∀ k, k < 74 → k < N) {p : Program} {e : Env} {R : Room} {s : State} {m : MethodId} {args : Array Value} {below : List Frame} {meth : Method} {c : Code}  (C : vC G B p m meth c cX12_above 10 (some .boolean) s args yX12_above.cls) (ho : σ 49 = eO 9 (mO ad x t)) (hn : σ 9 = eJ G 16 (jt σ 9)) (hp : σ 10 = eJ G 16 (jt σ 10)) {w pt k num n : Nat} (hk : k = 2 ∨ k = 3) (hnum : num < 2 ^ 31) (hP : PVp σ n) (hn3 : n < 2 ^ (16 * (4 * k + 2))) {d1 : Nat} (hR : R = vRm d1 0 0) (hd1 : 0 ≤ d1) {Post : Option Value → nS → Prop} (hPost : ∀ r σ', r = some (.int (if num * 2 ^ (64 * k) < n then 1 else 0)) ∧ σ' = σ → Post r σ') : V G B p l e R s m args below meth c 10 0 0 (MQ below (vQ G B (fun r w' => ∃ σ' : nS, w' = nW ad N σ' ∧ Post r σ')) args s 0 0 (fun q => B ≤ q)) (nW ad N σ) 208 [(0, .ref (ad 49)), (1, .int (nI w)), (2, .long (lN pt)), (4, .int (nI k)), (5, .int (nI num))] [] := by
  subst hR
  obtain ⟨P, hP1, hP2⟩ := hP
  have hT := ab_top (num := num) hk (fun i hi => (hP1 i hi).2) hP2 hn3
  have p1 := (hP1 (4 * k) (by omega)).2
  have p2 := (hP1 (4 * k + 1) (by omega)).2
  have fz : ∀ j, (if vl P (j + 1) = 0 then (0 : Int32) else 1) = if P j = 0 then (if vl P j = 0 then 0 else 1) else 1 := fun j => ab_fl
  have f0 : (0 : Int32) = if vl P 0 = 0 then 0 else 1 := rfl
  clear hP2
  generalize vl P = vp at hT fz f0
  refine v_aload_n C eX12_above_208 rfl 0 rfl ?_
  refine n_get C I fX12_39_X12 eX12_above_209 (hN 49 (by decide)) ho rfl ?_
  refine v_iconst (v := (4 : Int32)) C eX12_above_212 (by decide) ?_
  refine v_iload C eX12_above_213 3 rfl ?_
  refine v_imul C eX12_above_215 ?_
  refine n_lald C I eX12_above_216 (hN 10 (by decide)) hp (4 * k) (ix_mul (a := 4) (b := k) (rfl : (4 : Int32) = nI 4) (rfl : nI k = nI k)) (by omega) (by decide) ?_
  refine v_aload_n C eX12_above_217 rfl 0 rfl ?_
  refine n_get C I fX12_39_X12 eX12_above_218 (hN 49 (by decide)) ho rfl ?_
  refine v_iconst (v := (4 : Int32)) C eX12_above_221 (by decide) ?_
  refine v_iload C eX12_above_222 3 rfl ?_
  refine v_imul C eX12_above_224 ?_
  refine v_iconst (v := (1 : Int32)) C eX12_above_225 (by decide) ?_
  refine v_iadd C eX12_above_226 ?_
  refine n_lald C I eX12_above_227 (hN 10 (by decide)) hp ((4 * k) + 1) (ix_add (a := 4 * k) (b := 1) (ix_mul (a := 4) (b := k) (rfl : (4 : Int32) = nI 4) (rfl : nI k = nI k)) (rfl : (1 : Int32) = nI 1)) (by omega) (by decide) ?_
  refine v_bipush (v := (16 : Int32)) C eX12_above_228 (by decide) ?_
  refine v_natT (show (16 : Int32) = nI 16 from rfl) ?_
  refine v_lshl C eX12_above_230 ?_
  refine v_ladd C eX12_above_231 ?_
  refine v_topl (fun t1 ht1 => ?_)
  have e1 : t1 = lN (P (4 * k) + P (4 * k + 1) * 65536) := by rw [ht1, (hP1 (4 * k) (by omega)).1, (hP1 (4 * k + 1) (by omega)).1, wb_shl _ (by decide), lN_add]
  subst e1
  refine v_lstore (lv' := [(0, .ref (ad 49)), (1, .int (nI w)), (2, .long (lN pt)), (4, .int (nI k)), (5, .int (nI num)), (6, .long (lN (P (4 * k) + P (4 * k + 1) * 65536)))]) C eX12_above_232 (by decide) [1, 2, 3, 4, 5, 0] rfl ?_
  refine v_iconst (v := (0 : Int32)) C eX12_above_234 (by decide) ?_
  rw [f0]
  refine v_istore (lv' := [(0, .ref (ad 49)), (1, .int (nI w)), (2, .long (lN pt)), (4, .int (nI k)), (5, .int (nI num)), (6, .long (lN (P (4 * k) + P (4 * k + 1) * 65536))), (8, .int ((if vp 0 = 0 then (0 : Int32) else 1)))]) C eX12_above_235 (by decide) [1, 2, 3, 4, 5, 6, 0] rfl ?_
  refine v_iconst (v := nI 0) C eX12_above_237 (by decide) ?_
  refine v_istore (lv' := [(0, .ref (ad 49)), (1, .int (nI w)), (2, .long (lN pt)), (4, .int (nI k)), (5, .int (nI num)), (6, .long (lN (P (4 * k) + P (4 * k + 1) * 65536))), (8, .int ((if vp 0 = 0 then (0 : Int32) else 1))), (9, .int (nI 0))]) C eX12_above_238 (by decide) [1, 2, 3, 4, 5, 6, 7, 0] rfl ?_
  refine v_forP (fun j τ => τ = σ) (fun j => [(0, .ref (ad 49)), (1, .int (nI w)), (2, .long (lN pt)), (4, .int (nI k)), (5, .int (nI num)), (6, .long (lN (P (4 * k) + P (4 * k + 1) * 65536))), (8, .int ((if vp j = 0 then (0 : Int32) else 1))), (9, .int (nI j))]) (4 * k) ?_ ?_ _ rfl
  · intro τ hI
    rw [hI]
    refine v_iload C eX12_above_240 7 rfl ?_
    refine v_iconst (v := (4 : Int32)) C eX12_above_242 (by decide) ?_
    refine v_iload C eX12_above_243 3 rfl ?_
    refine v_imul C eX12_above_245 ?_
    refine v_icmp_ge (tgt := 270) C eX12_above_246 (by decide) (fun _ => ?_) (fun h => absurd (ix_le (a := 4 * k) (b := 4 * k) (ix_mul (a := 4) (b := k) (rfl : (4 : Int32) = nI 4) (rfl : nI k = nI k)) (rfl : nI (4 * k) = nI (4 * k)) (by omega) (by omega) (by omega)) h)
    generalize hto : P (4 * k) + P (4 * k + 1) * 65536 = top at hT
    have htl : top < 2 ^ 33 := by omega
    have hnl : (nI num).toInt64 = lN num := nI_l hnum
    have clt : lN num < lN top ↔ num < top := pk_lLT (by omega) (by omega)
    have ceq : lN top = lN num ↔ top = num := pk_lEQ (by omega) (by omega)
    refine v_lload C eX12_above_270 5 rfl ?_
    refine v_iload C eX12_above_272 4 rfl ?_
    refine v_i2l C eX12_above_274 ?_
    refine v_lcmp C eX12_above_275 ?_
    refine v_if_gt (tgt := 293) C eX12_above_276 (by decide) (fun c3 => ?_) (fun c3 => ?_)
    · refine v_iconst (v := (1 : Int32)) C eX12_above_293 (by decide) ?_
      refine v_goto (tgt := 298) C eX12_above_294 (by decide) ?_
      exact n_zret C rfl rfl eX12_above_298 (hPost _ _ ⟨by rw [if_pos (hT.mpr (Or.inl (clt.mp (hnl ▸ (lg_cmp_gt _ _).mp c3))))], rfl⟩)
    · have n1 : ¬ num < top := fun h => c3 ((lg_cmp_gt _ _).mpr (hnl ▸ clt.mpr h))
      refine v_lload C eX12_above_279 5 rfl ?_
      refine v_iload C eX12_above_281 4 rfl ?_
      refine v_i2l C eX12_above_283 ?_
      refine v_lcmp C eX12_above_284 ?_
      refine v_if_ne (tgt := 297) C eX12_above_285 (by decide) (fun c4 => ?_) (fun c4 => ?_)
      · have n2 : ¬ num = top := fun h => c4 ((lg_cmp_eq _ _).mpr (hnl ▸ ceq.mpr h.symm))
        refine v_iconst (v := (0 : Int32)) C eX12_above_297 (by decide) ?_
        exact n_zret C rfl rfl eX12_above_298 (hPost _ _ ⟨by rw [if_neg (fun h => (fun q => q.elim n1 (fun q => n2 q.1)) (hT.mp h))], rfl⟩)
      · have n2 : num = top := (ceq.mp (hnl ▸ (lg_cmp_eq _ _).mp c4)).symm
        refine v_iload C eX12_above_288 6 rfl ?_
        by_cases z : vp (4 * k) = 0
        · refine v_if_eq (tgt := 297) C eX12_above_290 (by decide) (fun _ => ?_) (fun h => absurd (if_pos z) h)
          refine v_iconst (v := (0 : Int32)) C eX12_above_297 (by decide) ?_
          exact n_zret C rfl rfl eX12_above_298 (hPost _ _ ⟨by rw [if_neg (fun h => (fun q => q.elim n1 (fun q => q.2 z)) (hT.mp h))], rfl⟩)
        · refine v_if_eq (tgt := 297) C eX12_above_290 (by decide) (fun h => absurd h (by rw [if_neg z]; decide)) (fun _ => ?_)
          refine v_iconst (v := (1 : Int32)) C eX12_above_293 (by decide) ?_
          refine v_goto (tgt := 298) C eX12_above_294 (by decide) ?_
          exact n_zret C rfl rfl eX12_above_298 (hPost _ _ ⟨by rw [if_pos (hT.mpr (Or.inr ⟨n2, z⟩))], rfl⟩)
  · intro j hj ih τ hI
    rw [hI]
    refine v_iload C eX12_above_240 7 rfl ?_
    refine v_iconst (v := (4 : Int32)) C eX12_above_242 (by decide) ?_
    refine v_iload C eX12_above_243 3 rfl ?_
    refine v_imul C eX12_above_245 ?_
    refine v_icmp_ge (tgt := 270) C eX12_above_246 (by decide) (fun h => absurd h (ix_nle (a := 4 * k) (b := j) (ix_mul (a := 4) (b := k) (rfl : (4 : Int32) = nI 4) (rfl : nI k = nI k)) (rfl : nI j = nI j) (by omega) (by omega) (by omega))) (fun _ => ?_)
    refine v_aload_n C eX12_above_249 rfl 0 rfl ?_
    refine n_get C I fX12_39_X12 eX12_above_250 (hN 49 (by decide)) ho rfl ?_
    refine v_iload C eX12_above_253 7 rfl ?_
    refine n_lald C I eX12_above_255 (hN 10 (by decide)) hp j (rfl : nI j = nI j) (by omega) (by decide) ?_
    refine v_lconst (v := (0 : Int64)) C eX12_above_256 (by decide) ?_
    refine v_lcmp C eX12_above_257 ?_
    have hj16 : j < 16 := by omega
    refine v_if_eq (tgt := 264) C eX12_above_258 (by decide) (fun c2 => ?_) (fun c2 => ?_)
    · have ez : P j = 0 := (pk_lEQ (a := P j) (b := 0) (by have := (hP1 j hj16).2; omega) (by decide)).mp ((hP1 j hj16).1.symm.trans ((lg_cmp_eq _ _).mp c2))
      rw [fz j, if_pos ez] at ih
      refine v_iinc (lv' := [(0, .ref (ad 49)), (1, .int (nI w)), (2, .long (lN pt)), (4, .int (nI k)), (5, .int (nI num)), (6, .long (lN (P (4 * k) + P (4 * k + 1) * 65536))), (8, .int ((if vp j = 0 then (0 : Int32) else 1))), (9, .int (nI (j + 1)))]) C eX12_above_264 7 rfl (ix_inc _) (by decide) [1, 2, 3, 4, 5, 6, 7, 0] rfl ?_
      refine v_goto (tgt := 240) C eX12_above_267 (by decide) ?_
      exact ih _ rfl
    · have ez : ¬ P j = 0 := fun h => c2 ((lg_cmp_eq _ _).mpr ((hP1 j hj16).1.trans (congrArg lN h)))
      rw [fz j, if_neg ez] at ih
      refine v_iconst (v := (1 : Int32)) C eX12_above_261 (by decide) ?_
      refine v_istore (lv' := [(0, .ref (ad 49)), (1, .int (nI w)), (2, .long (lN pt)), (4, .int (nI k)), (5, .int (nI num)), (6, .long (lN (P (4 * k) + P (4 * k + 1) * 65536))), (8, .int ((1 : Int32))), (9, .int (nI j))]) C eX12_above_262 (by decide) [1, 2, 3, 4, 5, 6, 0, 7] rfl ?_
      refine v_iinc (lv' := [(0, .ref (ad 49)), (1, .int (nI w)), (2, .long (lN pt)), (4, .int (nI k)), (5, .int (nI num)), (6, .long (lN (P (4 * k) + P (4 * k + 1) * 65536))), (8, .int ((1 : Int32))), (9, .int (nI (j + 1)))]) C eX12_above_264 7 rfl (ix_inc _) (by decide) [1, 2, 3, 4, 5, 6, 7, 0] rfl ?_
      refine v_goto (tgt := 240) C eX12_above_267 (by decide) ?_
      exact ih _ rfl

end M42
