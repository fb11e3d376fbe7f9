/-- the fraction's bits, from the highest on -/
def ptN (w k num : Nat) : Nat → Nat
  | 0 => 0
  | j + 1 => if num * 2 ^ (64 * k) < (w * 2 ^ 64 + (ptN w k num j + 2 ^ (63 - j))) ^ k then ptN w k num j else ptN w k num j + 2 ^ (63 - j)
theorem ptN_ok {w k num : Nat} : ∀ j, j ≤ 64 → (∃ q, ptN w k num j = q * 2 ^ (64 - j)) ∧ ptN w k num j + 2 ^ (64 - j) ≤ 2 ^ 64
  | 0, _ => ⟨⟨0, by rw [Nat.zero_mul]; rfl⟩, by show 0 + 2 ^ (64 - 0) ≤ 2 ^ 64; decide⟩
  | j + 1, h => by
    obtain ⟨⟨q, h1⟩, h2⟩ := ptN_ok (w := w) (k := k) (num := num) j (by omega)
    have e : 2 ^ (64 - j) = 2 * 2 ^ (64 - (j + 1)) := by rw [show 64 - j = (64 - (j + 1)) + 1 by omega, Nat.pow_succ, Nat.mul_comm]
    have e2 : 63 - j = 64 - (j + 1) := by omega
    have e3 : ptN w k num (j + 1) = if num * 2 ^ (64 * k) < (w * 2 ^ 64 + (ptN w k num j + 2 ^ (63 - j))) ^ k then ptN w k num j else ptN w k num j + 2 ^ (63 - j) := rfl
    rw [e] at h1 h2
    rw [e3, e2]
    split
    · exact ⟨⟨q * 2, by rw [h1, Nat.mul_assoc]⟩, by omega⟩
    · exact ⟨⟨q * 2 + 1, by rw [h1, Nat.add_mul (q * 2) 1, Nat.one_mul, Nat.mul_assoc]⟩, by omega⟩
theorem ptN_or {w k num j : Nat} (hj : j < 64) : ptN w k num j ||| 2 ^ (63 - j) = ptN w k num j + 2 ^ (63 - j) ∧ ptN w k num j + 2 ^ (63 - j) < 2 ^ 64 := by
  obtain ⟨⟨q, h1⟩, h2⟩ := ptN_ok (w := w) (k := k) (num := num) j (by omega)
  have hlt : 2 ^ (63 - j) < 2 ^ (64 - j) := Nat.pow_lt_pow_right (by decide) (by omega)
  refine ⟨?_, by omega⟩
  have := Nat.shiftLeft_add_eq_or_of_lt (i := 64 - j) hlt q
  rw [Nat.shiftLeft_eq] at this
  rw [h1]
  exact this.symm
theorem pw_sh {v k : Nat} : (v * 2 ^ 64 + 0) ^ k = v ^ k * 2 ^ (64 * k) := by rw [Nat.add_zero, Nat.mul_pow, ← Nat.pow_mul]
theorem pw_lt {v k num : Nat} : num * 2 ^ (64 * k) < (v * 2 ^ 64 + 0) ^ k ↔ num < v ^ k := by
  rw [pw_sh]
  exact Nat.mul_lt_mul_right (Nat.two_pow_pos _)
section M44
variable {G : vG} {B : Nat} {l : Launch} {ad : Nat → Nat} {N : Nat} {σ : nS} {x : Nat → Int32} {t : Int64}
theorem bI_s {j : Nat} : (63 : Int32) - nI (j + 1) = 63 - nI j + (-1) := by
  rw [← nI_1]
  apply Int32.toBitVec_inj.mp
  simp only [Int32.toBitVec_sub, Int32.toBitVec_add]
  generalize (nI j).toBitVec = z
  rw [BitVec.sub_eq_add_neg, BitVec.neg_add, BitVec.sub_eq_add_neg, BitVec.sub_eq_add_neg, BitVec.add_assoc]
  rfl
set_option maxRecDepth 100000 in
set_option maxHeartbeats 4000000 in
theorem c_root (I : nI1 ad N) (hN : ∀ k, k < 74 → k < N) (ho : σ 49 = eO 9 (mO ad x t)) (hn : σ 9 = eJ G 16 (jt σ 9)) (hp : σ 10 = eJ G 16 (jt σ 10)) (num k W : Nat) (hk : k = 2 ∨ k = 3) (hnum : num < 2 ^ 31) (hW : 1 ≤ W ∧ W ≤ 31) (hW1 : ∀ v, 1 ≤ v → v < W → (v + 1) ^ k ≤ num) (hW2 : num < (W + 1) ^ k) : nOk G B l ad N yX12_root cX12_root 7 (some .long) 1 0 0 [.ref (ad 49), .int (nI num), .int (nI k)] σ (fun r σ' => r = some (.long (lN (ptN W k num 64))) ∧ (∀ k, ¬ (k = 9 ∨ k = 10) → σ' k = σ k) ∧ σ' 9 = eJ G 16 (jt σ' 9) ∧ σ' 10 = eJ G 16 (jt σ' 10)) := by
  refine vOk.of (by decide +kernel) (Nat.le_of_ble_eq_true rfl) ?_
  intro p e s m args below meth c C
  refine v_eq (lv' := [(0, .ref (ad 49)), (1, .int (nI num)), (2, .int (nI k))]) rfl rfl rfl ?_
  refine v_iconst (v := (1 : Int32)) C eX12_root_0 (by decide) ?_
  refine v_natT (show (1 : Int32) = nI (1 + 0) from rfl) ?_
  refine v_istore_n (lv' := [(0, .ref (ad 49)), (1, .int (nI num)), (2, .int (nI k)), (3, .int (nI (1 + 0)))]) C eX12_root_1 rfl (by decide) [1, 2, 3, 0] rfl ?_
  refine v_forP (fun j τ => (∀ k, ¬ (k = 9 ∨ k = 10) → τ k = σ k) ∧ τ 9 = eJ G 16 (jt τ 9) ∧ τ 10 = eJ G 16 (jt τ 10)) (fun j => [(0, .ref (ad 49)), (1, .int (nI num)), (2, .int (nI k)), (3, .int (nI (1 + j)))]) (W - 1) ?_ ?_ _ ⟨fun k _ => rfl, hn, hp⟩
  · intro τ hI
    obtain ⟨hk1, hn1, hp1⟩ := hI
    have ho1 : τ 49 = eO 9 (mO ad x t) := (hk1 49 (by decide)).trans ho
    have hWe : 1 + (W - 1) = W := by omega
    refine v_aload_n C eX12_root_2 rfl 0 rfl ?_
    refine v_iload_n C eX12_root_3 rfl 3 rfl ?_
    refine v_iconst (v := (1 : Int32)) C eX12_root_4 (by decide) ?_
    refine v_iadd C eX12_root_5 ?_
    refine v_lconst (v := (0 : Int64)) C eX12_root_6 (by decide) ?_
    refine v_iload_n C eX12_root_7 rfl 2 rfl ?_
    refine v_iload_n C eX12_root_8 rfl 1 rfl ?_
    refine n_callV (As := [.int (nI ((1 + (W - 1)) + 1)), .long (lN 0), .int (nI k), .int (nI num)]) (rest := []) C I mX12_146 (c_above I hN ho1 hn1 hp1 (1 + (W - 1) + 1) (0) k num (by omega) (by first | decide | omega) hk hnum) (hN 49 (by decide)) ho1 rfl (by decide) (by decide) ⟨by decide, by decide⟩ rfl (vi_c (rfl : nI num = nI num) (vi_c (rfl : nI k = nI k) (vi_k (vi_c (ix_add (a := 1 + (W - 1)) (b := 1) (rfl : nI (1 + (W - 1)) = nI (1 + (W - 1))) (rfl : (1 : Int32) = nI 1)) rfl)))) (Nat.le_of_ble_eq_true rfl) eX12_root_9 (fun r σ2 hp => ?_)
    obtain ⟨rfl, hk2, hn2, hp2⟩ := hp
    have ho2 : σ2 49 = eO 9 (mO ad x t) := (hk2 49 (by decide)).trans ho1
    refine v_natT (show (if num * 2 ^ (64 * k) < ((1 + (W - 1) + 1) * 2 ^ 64 + (0)) ^ k then (1 : Int32) else 0) = 1 from if_pos (pw_lt.mpr (by rw [hWe]; exact hW2))) ?_
    refine v_if_ne (tgt := 21) C eX12_root_12 (by decide) (fun _ => ?_) (fun h => absurd h (by decide))
    refine v_lconst (v := (0 : Int64)) C eX12_root_21 (by decide) ?_
    refine v_lstore (lv' := [(0, .ref (ad 49)), (1, .int (nI num)), (2, .int (nI k)), (3, .int (nI (1 + (W - 1)))), (4, .long (lN (ptN W k num 0)))]) C eX12_root_22 (by decide) [1, 2, 3, 4, 0] rfl ?_
    refine v_bipush (v := (63 : Int32)) C eX12_root_24 (by decide) ?_
    refine v_natT (show (63 : Int32) = 63 - nI 0 from rfl) ?_
    refine v_istore (lv' := [(0, .ref (ad 49)), (1, .int (nI num)), (2, .int (nI k)), (3, .int (nI (1 + (W - 1)))), (4, .long (lN (ptN W k num 0))), (6, .int (63 - nI 0))]) C eX12_root_26 (by decide) [1, 2, 3, 4, 5, 0] rfl ?_
    rw [hWe]
    refine v_forP (fun j ρ => (∀ k, ¬ (k = 9 ∨ k = 10) → ρ k = σ k) ∧ ρ 9 = eJ G 16 (jt ρ 9) ∧ ρ 10 = eJ G 16 (jt ρ 10)) (fun j => [(0, .ref (ad 49)), (1, .int (nI num)), (2, .int (nI k)), (3, .int (nI W)), (4, .long (lN (ptN W k num j))), (6, .int (63 - nI j))]) 64 ?_ ?_ _ ⟨fun k hk => (hk2 k hk).trans (hk1 k hk), hn2, hp2⟩
    · intro ρ hI
      obtain ⟨hk3, hn3, hp3⟩ := hI
      have ho3 : ρ 49 = eO 9 (mO ad x t) := (hk3 49 (by decide)).trans ho
      refine v_iload C eX12_root_28 5 rfl ?_
      refine v_if_lt (tgt := 65) C eX12_root_30 (by decide) (fun _ => ?_) (fun h => absurd (by decide) h)
      refine v_lload C eX12_root_65 4 rfl ?_
      exact n_lret C rfl eX12_root_67 ⟨rfl, hk3, hn3, hp3⟩
    · intro j hj ih ρ hI
      obtain ⟨hk3, hn3, hp3⟩ := hI
      have ho3 : ρ 49 = eO 9 (mO ad x t) := (hk3 49 (by decide)).trans ho
      have hb : (63 : Int32) - nI j = nI (63 - j) := pk_sub (a := 63) (b := j) (by omega)
      have h2p : 0 < 2 ^ (63 - j) := Nat.two_pow_pos (63 - j)
      have hor := ptN_or (w := W) (k := k) (num := num) hj
      refine v_iload C eX12_root_28 5 rfl ?_
      refine v_if_lt (tgt := 65) C eX12_root_30 (by decide) (fun h => absurd h (by rw [hb]; exact nI_pos (by omega))) (fun _ => ?_)
      refine v_aload_n C eX12_root_33 rfl 0 rfl ?_
      refine v_iload_n C eX12_root_34 rfl 3 rfl ?_
      refine v_lload C eX12_root_35 4 rfl ?_
      refine v_lconst (v := (1 : Int64)) C eX12_root_37 (by decide) ?_
      refine v_iload C eX12_root_38 5 rfl ?_
      refine v_natT (show 63 - nI j = nI (63 - j) from hb) ?_
      refine v_lshl C eX12_root_40 ?_
      refine v_lor C eX12_root_41 ?_
      refine v_topl (fun t1 ht1 => ?_)
      have et1 : t1 = lN (ptN W k num j + 2 ^ (63 - j)) := by rw [ht1, show (1 : Int64) = lN 1 from rfl, wb_shl _ (by omega), Nat.one_mul, wb_or (by omega) (by omega), hor.1]
      subst et1
      refine v_iload_n C eX12_root_42 rfl 2 rfl ?_
      refine v_iload_n C eX12_root_43 rfl 1 rfl ?_
      refine n_callV (As := [.int (nI W), .long (lN (ptN W k num j + 2 ^ (63 - j))), .int (nI k), .int (nI num)]) (rest := []) C I mX12_146 (c_above I hN ho3 hn3 hp3 (W) (ptN W k num j + 2 ^ (63 - j)) k num (by omega) (by first | decide | omega) hk hnum) (hN 49 (by decide)) ho3 rfl (by decide) (by decide) ⟨by decide, by decide⟩ rfl (vi_c (rfl : nI num = nI num) (vi_c (rfl : nI k = nI k) (vi_k (vi_c (rfl : nI W = nI W) rfl)))) (Nat.le_of_ble_eq_true rfl) eX12_root_44 (fun r σ4 hp => ?_)
      obtain ⟨rfl, hk4, hn4, hp4⟩ := hp
      have ho4 : σ4 49 = eO 9 (mO ad x t) := (hk4 49 (by decide)).trans ho3
      by_cases c : num * 2 ^ (64 * k) < (W * 2 ^ 64 + (ptN W k num j + 2 ^ (63 - j))) ^ k
      · rw [if_pos c]
        refine v_if_ne (tgt := 59) C eX12_root_47 (by decide) (fun _ => ?_) (fun h => absurd h (by decide))
        rw [show ptN W k num (j + 1) = ptN W k num j from if_pos c, show (63 : Int32) - nI (j + 1) = 63 - nI j + (-1) from bI_s] at ih
        refine v_iinc (lv' := [(0, .ref (ad 49)), (1, .int (nI num)), (2, .int (nI k)), (3, .int (nI W)), (4, .long (lN (ptN W k num j))), (6, .int (63 - nI j + (-1)))]) C eX12_root_59 5 rfl rfl (by decide) [1, 2, 3, 4, 5, 0] rfl ?_
        refine v_goto (tgt := 28) C eX12_root_62 (by decide) ?_
        exact ih σ4 ⟨fun k hk => (hk4 k hk).trans (hk3 k hk), hn4, hp4⟩
      · rw [if_neg c]
        refine v_if_ne (tgt := 59) C eX12_root_47 (by decide) (fun h => absurd rfl h) (fun _ => ?_)
        rw [show ptN W k num (j + 1) = ptN W k num j + 2 ^ (63 - j) from if_neg c, show (63 : Int32) - nI (j + 1) = 63 - nI j + (-1) from bI_s] at ih
        refine v_lload C eX12_root_50 4 rfl ?_
        refine v_lconst (v := (1 : Int64)) C eX12_root_52 (by decide) ?_
        refine v_iload C eX12_root_53 5 rfl ?_
        refine v_natT (show 63 - nI j = nI (63 - j) from hb) ?_
        refine v_lshl C eX12_root_55 ?_
        refine v_lor C eX12_root_56 ?_
        refine v_topl (fun t2 ht2 => ?_)
        have et2 : t2 = lN (ptN W k num j + 2 ^ (63 - j)) := by rw [ht2, show (1 : Int64) = lN 1 from rfl, wb_shl _ (by omega), Nat.one_mul, wb_or (by omega) (by omega), hor.1]
        subst et2
        refine v_lstore (lv' := [(0, .ref (ad 49)), (1, .int (nI num)), (2, .int (nI k)), (3, .int (nI W)), (4, .long (lN (ptN W k num j + 2 ^ (63 - j)))), (6, .int (63 - nI j))]) C eX12_root_57 (by decide) [1, 2, 3, 4, 0, 5] rfl ?_
        refine v_iinc (lv' := [(0, .ref (ad 49)), (1, .int (nI num)), (2, .int (nI k)), (3, .int (nI W)), (4, .long (lN (ptN W k num j + 2 ^ (63 - j)))), (6, .int (63 - nI j + (-1)))]) C eX12_root_59 5 rfl rfl (by decide) [1, 2, 3, 4, 5, 0] rfl ?_
        refine v_goto (tgt := 28) C eX12_root_62 (by decide) ?_
        exact ih σ4 ⟨fun k hk => (hk4 k hk).trans (hk3 k hk), hn4, hp4⟩
  · intro j hj ih τ hI
    obtain ⟨hk1, hn1, hp1⟩ := hI
    have ho1 : τ 49 = eO 9 (mO ad x t) := (hk1 49 (by decide)).trans ho
    refine v_aload_n C eX12_root_2 rfl 0 rfl ?_
    refine v_iload_n C eX12_root_3 rfl 3 rfl ?_
    refine v_iconst (v := (1 : Int32)) C eX12_root_4 (by decide) ?_
    refine v_iadd C eX12_root_5 ?_
    refine v_lconst (v := (0 : Int64)) C eX12_root_6 (by decide) ?_
    refine v_iload_n C eX12_root_7 rfl 2 rfl ?_
    refine v_iload_n C eX12_root_8 rfl 1 rfl ?_
    refine n_callV (As := [.int (nI ((1 + j) + 1)), .long (lN 0), .int (nI k), .int (nI num)]) (rest := []) C I mX12_146 (c_above I hN ho1 hn1 hp1 (1 + j + 1) (0) k num (by omega) (by first | decide | omega) hk hnum) (hN 49 (by decide)) ho1 rfl (by decide) (by decide) ⟨by decide, by decide⟩ rfl (vi_c (rfl : nI num = nI num) (vi_c (rfl : nI k = nI k) (vi_k (vi_c (ix_add (a := 1 + j) (b := 1) (rfl : nI (1 + j) = nI (1 + j)) (rfl : (1 : Int32) = nI 1)) rfl)))) (Nat.le_of_ble_eq_true rfl) eX12_root_9 (fun r σ2 hp => ?_)
    obtain ⟨rfl, hk2, hn2, hp2⟩ := hp
    have ho2 : σ2 49 = eO 9 (mO ad x t) := (hk2 49 (by decide)).trans ho1
    have hle := hW1 (1 + j) (by omega) (by omega)
    refine v_natT (show (if num * 2 ^ (64 * k) < ((1 + j + 1) * 2 ^ 64 + (0)) ^ k then (1 : Int32) else 0) = 0 from if_neg (fun h => absurd (pw_lt.mp h) (Nat.not_lt.mpr hle))) ?_
    refine v_if_ne (tgt := 21) C eX12_root_12 (by decide) (fun h => absurd rfl h) (fun _ => ?_)
    refine v_iinc (lv' := [(0, .ref (ad 49)), (1, .int (nI num)), (2, .int (nI k)), (3, .int (nI (1 + j + 1)))]) C eX12_root_15 3 rfl (ix_inc _) (by decide) [1, 2, 3, 0] rfl ?_
    refine v_goto (tgt := 2) C eX12_root_18 (by decide) ?_
    exact ih σ2 ⟨fun k hk => (hk2 k hk).trans (hk1 k hk), hn2, hp2⟩

end M44
