def crN (L : Nat → Nat) : Nat → Nat
  | 0 => 0
  | i + 1 => (crN L i + L i) / 65536
def prF (L : Nat → Nat) (i : Nat) : Nat := (crN L i + L i) % 65536
theorem crN_le {L : Nat → Nat} {M : Nat} : ∀ i, (∀ m, m < i → L m ≤ M) → crN L i ≤ M
  | 0, _ => Nat.zero_le M
  | i + 1, h => by
    have h1 := crN_le i (fun m hm => h m (by omega))
    have h2 := h i (by omega)
    show (crN L i + L i) / 65536 ≤ M
    omega
theorem cr_vl {L : Nat → Nat} : ∀ i, vl (prF L) i + crN L i * 2 ^ (16 * i) = vl L i
  | 0 => rfl
  | i + 1 => by
    have h := cr_vl (L := L) i
    have e : prF L i + crN L (i + 1) * 65536 = crN L i + L i := by
      show (crN L i + L i) % 65536 + (crN L i + L i) / 65536 * 65536 = _
      omega
    have e2 : (2 : Nat) ^ (16 * (i + 1)) = 65536 * 2 ^ (16 * i) := by rw [show 16 * (i + 1) = 16 + 16 * i by omega, Nat.pow_add]
    have vS : ∀ (P : Nat → Nat), vl P (i + 1) = vl P i + P i * 2 ^ (16 * i) := fun _ => rfl
    rw [vS, vS, e2, ← h, ← Nat.mul_assoc, Nat.add_assoc, ← Nat.add_mul, e, Nat.add_mul, ← Nat.add_assoc]
def PVp (t : nS) (n : Nat) : Prop := ∃ P : Nat → Nat, (∀ i, i < 16 → jt t 10 i = lN (P i) ∧ P i < 65536) ∧ vl P 16 = n
section M41
variable {G : vG} {B : Nat} {l : Launch} {ad : Nat → Nat} {N : Nat} {σ : nS} {x : Nat → Int32} {t : Int64}
set_option maxRecDepth 100000 in
set_option maxHeartbeats 4000000 in
theorem ab_C (I : nI1 ad N) (hN : ∀ k, k < 74 → k < N) {p : Program} {e : Env} {R : Room} {s : State} {m : MethodId} {args : Array Value} {below : List Frame} {meth : Method} {c : Code} {Q : State → Prop} (C : vC G B p m meth c cX12_above 10 (some .boolean) s args yX12_above.cls) (ho : σ 49 = eO 9 (mO ad x t)) (hn : σ 9 = eJ G 16 (jt σ 9)) (hp : σ 10 = eJ G 16 (jt σ 10)) {w pt k num p0 : Nat} {L : Nat → Nat} (hL : ∀ m, m < 16 → jt σ 9 m = lN (L m) ∧ L m ≤ 5 * 16 * (65535 * 65535)) {d1 : Nat} (hR : R = vRm d1 0 0) (hd1 : 0 ≤ d1) (kk : ∀ σ', (σ' 9 = eJ G 16 (jt σ' 9) ∧ σ' 10 = eJ G 16 (jt σ' 10) ∧ (∀ k, ¬ (k = 10) → σ' k = σ k) ∧ ∀ m, m < 16 → jt σ' 10 m = lN (prF L m)) → V G B p l e R s m args below meth c 10 0 0 Q (nW ad N σ') 202 [(0, .ref (ad 49)), (1, .int (nI w)), (2, .long (lN pt)), (4, .int (nI k)), (5, .int (nI num)), (6, .int (nI p0))] []) : V G B p l e R s m args below meth c 10 0 0 Q (nW ad N σ) 151 [(0, .ref (ad 49)), (1, .int (nI w)), (2, .long (lN pt)), (4, .int (nI k)), (5, .int (nI num)), (6, .int (nI p0))] [] := by
  subst hR
  refine v_lconst (v := (0 : Int64)) C eX12_above_151 (by decide) ?_
  refine v_lstore (lv' := [(0, .ref (ad 49)), (1, .int (nI w)), (2, .long (lN pt)), (4, .int (nI k)), (5, .int (nI num)), (6, .int (nI p0)), (7, .long (lN (crN L 0)))]) C eX12_above_152 (by decide) [1, 2, 3, 4, 5, 6, 0] rfl ?_
  refine v_iconst (v := nI 0) C eX12_above_154 (by decide) ?_
  refine v_istore (lv' := [(0, .ref (ad 49)), (1, .int (nI w)), (2, .long (lN pt)), (4, .int (nI k)), (5, .int (nI num)), (6, .int (nI p0)), (7, .long (lN (crN L 0))), (9, .int (nI 0))]) C eX12_above_155 (by decide) [1, 2, 3, 4, 5, 6, 7, 0] rfl ?_
  refine v_forP (fun i τ => (∀ k, ¬ (k = 9 ∨ k = 10) → τ k = σ k) ∧ τ 9 = eJ G 16 (jt τ 9) ∧ τ 10 = eJ G 16 (jt τ 10) ∧ (∀ k, ¬ (k = 10) → τ k = σ k) ∧ ∀ m, m < i → jt τ 10 m = lN (prF L m)) (fun i => [(0, .ref (ad 49)), (1, .int (nI w)), (2, .long (lN pt)), (4, .int (nI k)), (5, .int (nI num)), (6, .int (nI p0)), (7, .long (lN (crN L i))), (9, .int (nI i))]) 16 ?_ ?_ _ ⟨fun k _ => rfl, hn, hp, fun k _ => rfl, fun m hm => absurd hm (Nat.not_lt_zero m)⟩
  · intro τ hI
    obtain ⟨hk1, hn1, hp1, hq1, hv1⟩ := hI
    have ho1 : τ 49 = eO 9 (mO ad x t) := (hk1 49 (by decide)).trans ho
    refine v_iload C eX12_above_157 7 rfl ?_
    refine v_bipush (v := (16 : Int32)) C eX12_above_159 (by decide) ?_
    refine v_icmp_ge (tgt := 202) C eX12_above_161 (by decide) (fun _ => ?_) (fun h => absurd (ix_le (a := 16) (b := 16) (rfl : (16 : Int32) = nI 16) (rfl : nI 16 = nI 16) (by omega) (by omega) (by omega)) h)
    refine v_pick (lv' := [(0, .ref (ad 49)), (1, .int (nI w)), (2, .long (lN pt)), (4, .int (nI k)), (5, .int (nI num)), (6, .int (nI p0))]) [0, 1, 2, 3, 4, 5] rfl ?_
    exact kk τ ⟨hn1, hp1, hq1, hv1⟩
  · intro i hi ih τ hI
    obtain ⟨hk1, hn1, hp1, hq1, hv1⟩ := hI
    have ho1 : τ 49 = eO 9 (mO ad x t) := (hk1 49 (by decide)).trans ho
    refine v_iload C eX12_above_157 7 rfl ?_
    refine v_bipush (v := (16 : Int32)) C eX12_above_159 (by decide) ?_
    refine v_icmp_ge (tgt := 202) C eX12_above_161 (by decide) (fun h => absurd h (ix_nle (a := 16) (b := i) (rfl : (16 : Int32) = nI 16) (rfl : nI i = nI i) (by omega) (by omega) (by omega))) (fun _ => ?_)
    refine v_lload C eX12_above_164 6 rfl ?_
    refine v_aload_n C eX12_above_166 rfl 0 rfl ?_
    refine n_get C I fX12_36_X12 eX12_above_167 (hN 49 (by decide)) ho1 rfl ?_
    refine v_iload C eX12_above_170 7 rfl ?_
    refine n_lald C I eX12_above_172 (hN 9 (by decide)) hn1 i (rfl : nI i = nI i) (by omega) (by decide) ?_
    refine v_ladd C eX12_above_173 ?_
    have hLi := hL i hi
    have hc := crN_le (L := L) (M := 5 * 16 * (65535 * 65535)) i (fun m hm => (hL m (by omega)).2)
    refine v_topl (fun t1 ht1 => ?_)
    have e1 : t1 = lN (crN L i + L i) := by rw [ht1, jt_same (hq1 9 (by decide)), hLi.1, lN_add]
    subst e1
    refine v_lstore (lv' := [(0, .ref (ad 49)), (1, .int (nI w)), (2, .long (lN pt)), (4, .int (nI k)), (5, .int (nI num)), (6, .int (nI p0)), (7, .long (lN (crN L i + L i))), (9, .int (nI i))]) C eX12_above_174 (by decide) [1, 2, 3, 4, 5, 6, 0, 7] rfl ?_
    refine v_aload_n C eX12_above_176 rfl 0 rfl ?_
    refine n_get C I fX12_39_X12 eX12_above_177 (hN 49 (by decide)) ho1 rfl ?_
    refine v_iload C eX12_above_180 7 rfl ?_
    refine v_lload C eX12_above_182 6 rfl ?_
    refine v_ldc2 (v := (65535 : Int64)) C eX12_above_184 vw_1114 ?_
    refine v_land C eX12_above_187 ?_
    refine v_topl (fun t2 ht2 => ?_)
    have e2 : t2 = lN (prF L i) := by rw [ht2, show (65535 : Int64) = lN (2 ^ 16 - 1) from rfl, wb_mask (by omega) (by decide)]; rfl
    refine n_last C I eX12_above_188 (hN 10 (by decide)) hp1 i (rfl : nI i = nI i) (by omega) (by decide) ?_
    refine v_lload C eX12_above_189 6 rfl ?_
    refine v_bipush (v := (16 : Int32)) C eX12_above_191 (by decide) ?_
    refine v_natT (show (16 : Int32) = nI 16 from (rfl : (16 : Int32) = nI 16)) ?_
    refine v_lushr C eX12_above_193 ?_
    refine v_topl (fun t3 ht3 => ?_)
    have e3 : t3 = lN (crN L (i + 1)) := by rw [ht3, wb_shr (by omega) (by decide)]; rfl
    subst e3
    refine v_lstore (lv' := [(0, .ref (ad 49)), (1, .int (nI w)), (2, .long (lN pt)), (4, .int (nI k)), (5, .int (nI num)), (6, .int (nI p0)), (7, .long (lN (crN L (i + 1)))), (9, .int (nI i))]) C eX12_above_194 (by decide) [1, 2, 3, 4, 5, 6, 0, 7] rfl ?_
    refine v_iinc (lv' := [(0, .ref (ad 49)), (1, .int (nI w)), (2, .long (lN pt)), (4, .int (nI k)), (5, .int (nI num)), (6, .int (nI p0)), (7, .long (lN (crN L (i + 1)))), (9, .int (nI (i + 1)))]) C eX12_above_196 7 rfl (ix_inc _) (by decide) [1, 2, 3, 4, 5, 6, 7, 0] rfl ?_
    refine v_goto (tgt := 157) C eX12_above_199 (by decide) ?_
    refine ih _ ⟨fun k hk => (n_ne (by omega)).trans (hk1 k hk), hn1, by rw [jt_n]; exact n_self, fun k hk => (n_ne hk).trans (hq1 k hk), fun m hm => ?_⟩
    rw [jt_n, up_at]
    by_cases e : m = i
    · rw [if_pos e, e]; exact e2
    · rw [if_neg e]; exact hv1 m (by omega)

theorem ab_S (I : nI1 ad N) (hN : ∀ k, k < 74 → k < N) {p : Program} {e : Env} {R : Room} {s : State} {m : MethodId} {args : Array Value} {below : List Frame} {meth : Method} {c : Code} {Q : State → Prop} (C : vC G B p m meth c cX12_above 10 (some .boolean) s args yX12_above.cls) (ho : σ 49 = eO 9 (mO ad x t)) (hn : σ 9 = eJ G 16 (jt σ 9)) (hp : σ 10 = eJ G 16 (jt σ 10)) {w pt k num p0 n : Nat} (hw : w ≤ 32) (hpt : pt < 2 ^ 64) (hP : PVp σ n) (hn1 : n < 2 ^ (16 * 12)) (hn2 : n * (w * 2 ^ 64 + pt) < 2 ^ (16 * 16)) {d1 : Nat} (hR : R = vRm d1 0 0) (kk : ∀ σ', ((∀ k, ¬ (k = 9 ∨ k = 10) → σ' k = σ k) ∧ σ' 9 = eJ G 16 (jt σ' 9) ∧ σ' 10 = eJ G 16 (jt σ' 10) ∧ PVp σ' (n * (w * 2 ^ 64 + pt))) → V G B p l e R s m args below meth c 10 0 0 Q (nW ad N σ') 202 [(0, .ref (ad 49)), (1, .int (nI w)), (2, .long (lN pt)), (4, .int (nI k)), (5, .int (nI num)), (6, .int (nI p0))] []) : V G B p l e R s m args below meth c 10 0 0 Q (nW ad N σ) 43 [(0, .ref (ad 49)), (1, .int (nI w)), (2, .long (lN pt)), (4, .int (nI k)), (5, .int (nI num)), (6, .int (nI p0))] [] := by
  obtain ⟨P, hP1, hP2⟩ := hP
  refine ab_Z I hN C ho hn hp hR (Nat.zero_le _) (fun σ1 h1 => ?_)
  obtain ⟨a1, a2, a3, a4⟩ := h1
  refine ab_M I hN C ((a3 49 (by decide)).trans ho) a1 a2 (Nat.le_refl _) hw hpt (P := P) (fun i hi => by rw [jt_same (a3 10 (by decide))]; exact hP1 i hi) (fun i h1 h2 => vl_hi (n := 16) (m := 12) (by rw [hP2]; exact hn1) h2 h1) a4 hR (Nat.zero_le _) (fun σ2 h2 => ?_)
  obtain ⟨b1, b2, b3, L, b4, b5⟩ := h2
  refine ab_C I hN C ((b3 49 (by decide)).trans ((a3 49 (by decide)).trans ho)) b1 b2 (L := L) b4 hR (Nat.zero_le _) (fun σ3 h3 => ?_)
  obtain ⟨c1, c2, c3, c4⟩ := h3
  have hv := cr_vl (L := L) 16
  rw [b5, hP2, dgA_vl hpt] at hv
  have hz : crN L 16 = 0 := by
    by_cases q : crN L 16 = 0
    · exact q
    · have : 1 * 2 ^ (16 * 16) ≤ crN L 16 * 2 ^ (16 * 16) := Nat.mul_le_mul_right _ (by omega)
      omega
  rw [hz, Nat.zero_mul, Nat.add_zero] at hv
  exact kk σ3 ⟨fun k hk => (c3 k (by omega)).trans ((b3 k (by omega)).trans (a3 k (by omega))), c1, c2, prF L, fun i hi => ⟨c4 i hi, Nat.mod_lt _ (by decide)⟩, hv⟩
end M41
