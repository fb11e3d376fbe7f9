theorem eX12_root_0 : vD cX12_root 0 (.iconst 1) 1 1 := ⟨by decide +kernel, rfl⟩
theorem eX12_root_1 : vD cX12_root 1 (.istore_n 3) 1 2 := ⟨by decide +kernel, rfl⟩
theorem eX12_root_2 : vD cX12_root 2 (.aload_n 0) 1 3 := ⟨by decide +kernel, rfl⟩
theorem eX12_root_3 : vD cX12_root 3 (.iload_n 3) 1 4 := ⟨by decide +kernel, rfl⟩
theorem eX12_root_4 : vD cX12_root 4 (.iconst 1) 1 5 := ⟨by decide +kernel, rfl⟩
theorem eX12_root_5 : vD cX12_root 5 .iadd 1 6 := ⟨by decide +kernel, rfl⟩
theorem eX12_root_6 : vD cX12_root 6 (.lconst 0) 1 7 := ⟨by decide +kernel, rfl⟩
theorem eX12_root_7 : vD cX12_root 7 (.iload_n 2) 1 8 := ⟨by decide +kernel, rfl⟩
theorem eX12_root_8 : vD cX12_root 8 (.iload_n 1) 1 9 := ⟨by decide +kernel, rfl⟩
theorem eX12_root_9 : vD cX12_root 9 (.invokevirtual 146) 3 12 := ⟨by decide +kernel, rfl⟩
theorem eX12_root_12 : vD cX12_root 12 (.ifCond .ne 9) 3 15 := ⟨by decide +kernel, rfl⟩
theorem eX12_root_15 : vD cX12_root 15 (.iinc 3 1) 3 18 := ⟨by decide +kernel, rfl⟩
theorem eX12_root_18 : vD cX12_root 18 (.goto (-16)) 3 21 := ⟨by decide +kernel, rfl⟩
theorem eX12_root_21 : vD cX12_root 21 (.lconst 0) 1 22 := ⟨by decide +kernel, rfl⟩
theorem eX12_root_22 : vD cX12_root 22 (.lstore 4) 2 24 := ⟨by decide +kernel, rfl⟩
theorem eX12_root_24 : vD cX12_root 24 (.bipush 63) 2 26 := ⟨by decide +kernel, rfl⟩
theorem eX12_root_26 : vD cX12_root 26 (.istore 6) 2 28 := ⟨by decide +kernel, rfl⟩
theorem eX12_root_28 : vD cX12_root 28 (.iload 6) 2 30 := ⟨by decide +kernel, rfl⟩
theorem eX12_root_30 : vD cX12_root 30 (.ifCond .lt 35) 3 33 := ⟨by decide +kernel, rfl⟩
theorem eX12_root_33 : vD cX12_root 33 (.aload_n 0) 1 34 := ⟨by decide +kernel, rfl⟩
theorem eX12_root_34 : vD cX12_root 34 (.iload_n 3) 1 35 := ⟨by decide +kernel, rfl⟩
theorem eX12_root_35 : vD cX12_root 35 (.lload 4) 2 37 := ⟨by decide +kernel, rfl⟩
theorem eX12_root_37 : vD cX12_root 37 (.lconst 1) 1 38 := ⟨by decide +kernel, rfl⟩
theorem eX12_root_38 : vD cX12_root 38 (.iload 6) 2 40 := ⟨by decide +kernel, rfl⟩
theorem eX12_root_40 : vD cX12_root 40 .lshl 1 41 := ⟨by decide +kernel, rfl⟩
theorem eX12_root_41 : vD cX12_root 41 .lor 1 42 := ⟨by decide +kernel, rfl⟩
theorem eX12_root_42 : vD cX12_root 42 (.iload_n 2) 1 43 := ⟨by decide +kernel, rfl⟩
theorem eX12_root_43 : vD cX12_root 43 (.iload_n 1) 1 44 := ⟨by decide +kernel, rfl⟩
theorem eX12_root_44 : vD cX12_root 44 (.invokevirtual 146) 3 47 := ⟨by decide +kernel, rfl⟩
theorem eX12_root_47 : vD cX12_root 47 (.ifCond .ne 12) 3 50 := ⟨by decide +kernel, rfl⟩
theorem eX12_root_50 : vD cX12_root 50 (.lload 4) 2 52 := ⟨by decide +kernel, rfl⟩
theorem eX12_root_52 : vD cX12_root 52 (.lconst 1) 1 53 := ⟨by decide +kernel, rfl⟩
theorem eX12_root_53 : vD cX12_root 53 (.iload 6) 2 55 := ⟨by decide +kernel, rfl⟩
theorem eX12_root_55 : vD cX12_root 55 .lshl 1 56 := ⟨by decide +kernel, rfl⟩
theorem eX12_root_56 : vD cX12_root 56 .lor 1 57 := ⟨by decide +kernel, rfl⟩
theorem eX12_root_57 : vD cX12_root 57 (.lstore 4) 2 59 := ⟨by decide +kernel, rfl⟩
theorem eX12_root_59 : vD cX12_root 59 (.iinc 6 (-1)) 3 62 := ⟨by decide +kernel, rfl⟩
theorem eX12_root_62 : vD cX12_root 62 (.goto (-34)) 3 65 := ⟨by decide +kernel, rfl⟩
theorem eX12_root_65 : vD cX12_root 65 (.lload 4) 2 67 := ⟨by decide +kernel, rfl⟩
theorem eX12_root_67 : vD cX12_root 67 .lreturn 1 68 := ⟨by decide +kernel, rfl⟩
theorem eX12_prime_0 : vD cX12_prime 0 (.iconst 2) 1 1 := ⟨by decide +kernel, rfl⟩
theorem eX12_prime_1 : vD cX12_prime 1 (.istore_n 1) 1 2 := ⟨by decide +kernel, rfl⟩
theorem eX12_prime_2 : vD cX12_prime 2 (.iload_n 1) 1 3 := ⟨by decide +kernel, rfl⟩
theorem eX12_prime_3 : vD cX12_prime 3 (.iload_n 1) 1 4 := ⟨by decide +kernel, rfl⟩
theorem eX12_prime_4 : vD cX12_prime 4 .imul 1 5 := ⟨by decide +kernel, rfl⟩
theorem eX12_prime_5 : vD cX12_prime 5 (.iload_n 0) 1 6 := ⟨by decide +kernel, rfl⟩
theorem eX12_prime_6 : vD cX12_prime 6 (.if_icmp .gt 17) 3 9 := ⟨by decide +kernel, rfl⟩
theorem eX12_prime_9 : vD cX12_prime 9 (.iload_n 0) 1 10 := ⟨by decide +kernel, rfl⟩
theorem eX12_prime_10 : vD cX12_prime 10 (.iload_n 1) 1 11 := ⟨by decide +kernel, rfl⟩
theorem eX12_prime_11 : vD cX12_prime 11 .irem 1 12 := ⟨by decide +kernel, rfl⟩
theorem eX12_prime_12 : vD cX12_prime 12 (.ifCond .ne 5) 3 15 := ⟨by decide +kernel, rfl⟩
theorem eX12_prime_15 : vD cX12_prime 15 (.iconst 0) 1 16 := ⟨by decide +kernel, rfl⟩
theorem eX12_prime_16 : vD cX12_prime 16 .ireturn 1 17 := ⟨by decide +kernel, rfl⟩
theorem eX12_prime_17 : vD cX12_prime 17 (.iinc 1 1) 3 20 := ⟨by decide +kernel, rfl⟩
theorem eX12_prime_20 : vD cX12_prime 20 (.goto (-18)) 3 23 := ⟨by decide +kernel, rfl⟩
theorem eX12_prime_23 : vD cX12_prime 23 (.iconst 1) 1 24 := ⟨by decide +kernel, rfl⟩
theorem eX12_prime_24 : vD cX12_prime 24 .ireturn 1 25 := ⟨by decide +kernel, rfl⟩
theorem eX12_bit_0 : vD cX12_bit 0 (.iconst 1) 1 1 := ⟨by decide +kernel, rfl⟩
theorem eX12_bit_1 : vD cX12_bit 1 (.istore_n 1) 1 2 := ⟨by decide +kernel, rfl⟩
theorem eX12_bit_2 : vD cX12_bit 2 (.iconst 0) 1 3 := ⟨by decide +kernel, rfl⟩
theorem eX12_bit_3 : vD cX12_bit 3 (.istore_n 2) 1 4 := ⟨by decide +kernel, rfl⟩
theorem eX12_bit_4 : vD cX12_bit 4 (.iload_n 2) 1 5 := ⟨by decide +kernel, rfl⟩
theorem eX12_bit_5 : vD cX12_bit 5 (.iload_n 0) 1 6 := ⟨by decide +kernel, rfl⟩
theorem eX12_bit_6 : vD cX12_bit 6 (.sipush 255) 3 9 := ⟨by decide +kernel, rfl⟩
theorem eX12_bit_9 : vD cX12_bit 9 .irem 1 10 := ⟨by decide +kernel, rfl⟩
theorem eX12_bit_10 : vD cX12_bit 10 (.if_icmp .ge 33) 3 13 := ⟨by decide +kernel, rfl⟩
theorem eX12_bit_13 : vD cX12_bit 13 (.iload_n 1) 1 14 := ⟨by decide +kernel, rfl⟩
theorem eX12_bit_14 : vD cX12_bit 14 (.sipush 128) 3 17 := ⟨by decide +kernel, rfl⟩
theorem eX12_bit_17 : vD cX12_bit 17 (.if_icmp .ge 9) 3 20 := ⟨by decide +kernel, rfl⟩
theorem eX12_bit_20 : vD cX12_bit 20 (.iconst 2) 1 21 := ⟨by decide +kernel, rfl⟩
theorem eX12_bit_21 : vD cX12_bit 21 (.iload_n 1) 1 22 := ⟨by decide +kernel, rfl⟩
theorem eX12_bit_22 : vD cX12_bit 22 .imul 1 23 := ⟨by decide +kernel, rfl⟩
theorem eX12_bit_23 : vD cX12_bit 23 (.goto 13) 3 26 := ⟨by decide +kernel, rfl⟩
theorem eX12_bit_26 : vD cX12_bit 26 (.iconst 2) 1 27 := ⟨by decide +kernel, rfl⟩
theorem eX12_bit_27 : vD cX12_bit 27 (.iload_n 1) 1 28 := ⟨by decide +kernel, rfl⟩
theorem eX12_bit_28 : vD cX12_bit 28 .imul 1 29 := ⟨by decide +kernel, rfl⟩
theorem eX12_bit_29 : vD cX12_bit 29 (.sipush 255) 3 32 := ⟨by decide +kernel, rfl⟩
theorem eX12_bit_32 : vD cX12_bit 32 .iand 1 33 := ⟨by decide +kernel, rfl⟩
theorem eX12_bit_33 : vD cX12_bit 33 (.bipush 113) 2 35 := ⟨by decide +kernel, rfl⟩
theorem eX12_bit_35 : vD cX12_bit 35 .ixor 1 36 := ⟨by decide +kernel, rfl⟩
theorem eX12_bit_36 : vD cX12_bit 36 (.istore_n 1) 1 37 := ⟨by decide +kernel, rfl⟩
theorem eX12_bit_37 : vD cX12_bit 37 (.iinc 2 1) 3 40 := ⟨by decide +kernel, rfl⟩
theorem eX12_bit_40 : vD cX12_bit 40 (.goto (-36)) 3 43 := ⟨by decide +kernel, rfl⟩
theorem eX12_bit_43 : vD cX12_bit 43 (.iload_n 1) 1 44 := ⟨by decide +kernel, rfl⟩
theorem eX12_bit_44 : vD cX12_bit 44 (.iconst 1) 1 45 := ⟨by decide +kernel, rfl⟩
theorem eX12_bit_45 : vD cX12_bit 45 .iand 1 46 := ⟨by decide +kernel, rfl⟩
theorem eX12_bit_46 : vD cX12_bit 46 .ireturn 1 47 := ⟨by decide +kernel, rfl⟩

theorem one_vl : ∀ n, vl (fun i => if i = 0 then 1 else 0) (n + 1) = 1
  | 0 => rfl
  | n + 1 => by
    have e : vl (fun i => if i = 0 then 1 else 0) (n + 1 + 1) = vl (fun i => if i = 0 then 1 else 0) (n + 1) + (if n + 1 = 0 then 1 else 0) * 2 ^ (16 * (n + 1)) := rfl
    rw [e, one_vl n, if_neg (by omega), Nat.zero_mul]
theorem D_le {w pt : Nat} (hw : w ≤ 32) (hpt : pt < 2 ^ 64) : (w * 2 ^ 64 + pt) ≤ 33 * 2 ^ 64 := by omega
theorem D_p {w pt : Nat} (hw : w ≤ 32) (hpt : pt < 2 ^ 64) : (w * 2 ^ 64 + pt) ^ 1 < 2 ^ (16 * 12) ∧ (w * 2 ^ 64 + pt) ^ 2 < 2 ^ (16 * 10) ∧ (w * 2 ^ 64 + pt) ^ 3 < 2 ^ (16 * 14) := by
  have h1 := pw_le (k := 1) (D_le hw hpt)
  have h2 := pw_le (k := 2) (D_le hw hpt)
  have h3 := pw_le (k := 3) (D_le hw hpt)
  exact ⟨Nat.lt_of_le_of_lt h1 (by decide), Nat.lt_of_le_of_lt h2 (by decide), Nat.lt_of_le_of_lt h3 (by decide)⟩
theorem D_b1 {D j : Nat} (hj : j < 3) (d1 : D ^ 1 < 2 ^ (16 * 12)) (d2 : D ^ 2 < 2 ^ (16 * 10)) : D ^ j < 2 ^ (16 * 12) := by
  have : j = 0 ∨ j = 1 ∨ j = 2 := by omega
  rcases this with h | h | h <;> rw [h]
  · exact Nat.lt_of_le_of_lt (Nat.le_refl 1) (by decide)
  · exact d1
  · exact Nat.lt_trans d2 (by decide)
theorem D_b2 {D j : Nat} (hj : j < 3) (d1 : D ^ 1 < 2 ^ (16 * 12)) (d2 : D ^ 2 < 2 ^ (16 * 10)) (d3 : D ^ 3 < 2 ^ (16 * 14)) : D ^ j * D < 2 ^ (16 * 16) := by
  rw [← Nat.pow_succ]
  have : j = 0 ∨ j = 1 ∨ j = 2 := by omega
  rcases this with h | h | h <;> rw [h]
  · exact Nat.lt_trans d1 (by decide)
  · exact Nat.lt_trans d2 (by decide)
  · exact Nat.lt_trans d3 (by decide)
theorem D_b3 {D k : Nat} (hk : k = 2 ∨ k = 3) (d2 : D ^ 2 < 2 ^ (16 * 10)) (d3 : D ^ 3 < 2 ^ (16 * 14)) : D ^ k < 2 ^ (16 * (4 * k + 2)) := by
  rcases hk with h | h <;> subst h
  · exact d2
  · exact d3
section M43
variable {G : vG} {B : Nat} {l : Launch} {ad : Nat → Nat} {N : Nat} {σ : nS} {x : Nat → Int32} {t : Int64}
set_option maxRecDepth 100000 in
set_option maxHeartbeats 4000000 in
theorem c_above (I : nI1 ad N) (hN : ∀ k, k < 74 → k < N) (ho : σ 49 = eO 9 (mO ad x t)) (hn : σ 9 = eJ G 16 (jt σ 9)) (hp : σ 10 = eJ G 16 (jt σ 10)) (w pt k num : Nat) (hw : w ≤ 32) (hpt : pt < 2 ^ 64) (hk : k = 2 ∨ k = 3) (hnum : num < 2 ^ 31) : nOk G B l ad N yX12_above cX12_above 10 (some .boolean) 0 0 0 [.ref (ad 49), .int (nI w), .long (lN pt), .int (nI k), .int (nI num)] σ (fun r σ' => r = some (.int (if num * 2 ^ (64 * k) < (w * 2 ^ 64 + pt) ^ k then 1 else 0)) ∧ (∀ k, ¬ (k = 9 ∨ k = 10) → σ' k = σ k) ∧ σ' 9 = eJ G 16 (jt σ' 9) ∧ σ' 10 = eJ G 16 (jt σ' 10)) := by
  refine vOk.of (by decide +kernel) (Nat.le_of_ble_eq_true rfl) ?_
  intro p e s m args below meth c C
  refine v_eq (lv' := [(0, .ref (ad 49)), (1, .int (nI w)), (2, .long (lN pt)), (4, .int (nI k)), (5, .int (nI num))]) rfl rfl rfl ?_
  obtain ⟨d1, d2, d3⟩ := D_p hw hpt
  generalize hD : (w * 2 ^ 64 + pt) = D at d1 d2 d3
  refine v_iconst (v := nI 0) C eX12_above_0 (by decide) ?_
  refine v_istore (lv' := [(0, .ref (ad 49)), (1, .int (nI w)), (2, .long (lN pt)), (4, .int (nI k)), (5, .int (nI num)), (6, .int (nI 0))]) C eX12_above_1 (by decide) [1, 2, 3, 4, 5, 0] rfl ?_
  refine v_forP (fun j τ => (∀ k, ¬ (k = 9 ∨ k = 10) → τ k = σ k) ∧ τ 9 = eJ G 16 (jt τ 9) ∧ τ 10 = eJ G 16 (jt τ 10) ∧ ∀ i, i < j → jt τ 10 i = lN (if i = 0 then 1 else 0)) (fun j => [(0, .ref (ad 49)), (1, .int (nI w)), (2, .long (lN pt)), (4, .int (nI k)), (5, .int (nI num)), (6, .int (nI j))]) 16 ?_ ?_ _ ⟨fun k _ => rfl, hn, hp, fun i hi => absurd hi (Nat.not_lt_zero i)⟩
  · intro τ hI
    obtain ⟨hk1, hn1, hp1, hv1⟩ := hI
    have ho1 : τ 49 = eO 9 (mO ad x t) := (hk1 49 (by decide)).trans ho
    refine v_iload C eX12_above_3 5 rfl ?_
    refine v_bipush (v := (16 : Int32)) C eX12_above_5 (by decide) ?_
    refine v_icmp_ge (tgt := 33) C eX12_above_7 (by decide) (fun _ => ?_) (fun h => absurd (ix_le (a := 16) (b := 16) (rfl : (16 : Int32) = nI 16) (rfl : nI 16 = nI 16) (by omega) (by omega) (by omega)) h)
    have hP0 : PVp τ (D ^ 0) := ⟨fun i => if i = 0 then 1 else 0, fun i hi => ⟨hv1 i hi, by show (if i = 0 then 1 else 0) < 65536; split <;> omega⟩, one_vl 15⟩
    refine v_iconst (v := nI 0) C eX12_above_33 (by decide) ?_
    refine v_istore (lv' := [(0, .ref (ad 49)), (1, .int (nI w)), (2, .long (lN pt)), (4, .int (nI k)), (5, .int (nI num)), (6, .int (nI 0))]) C eX12_above_34 (by decide) [1, 2, 3, 4, 5, 0] rfl ?_
    refine v_forP (fun j ρ => (∀ k, ¬ (k = 9 ∨ k = 10) → ρ k = σ k) ∧ ρ 9 = eJ G 16 (jt ρ 9) ∧ ρ 10 = eJ G 16 (jt ρ 10) ∧ PVp ρ (D ^ j)) (fun j => [(0, .ref (ad 49)), (1, .int (nI w)), (2, .long (lN pt)), (4, .int (nI k)), (5, .int (nI num)), (6, .int (nI j))]) k ?_ ?_ _ ⟨hk1, hn1, hp1, hP0⟩
    · intro ρ hI
      obtain ⟨hk2, hn2, hp2, hP2⟩ := hI
      have ho2 : ρ 49 = eO 9 (mO ad x t) := (hk2 49 (by decide)).trans ho
      refine v_iload C eX12_above_36 5 rfl ?_
      refine v_iload C eX12_above_38 3 rfl ?_
      refine v_icmp_ge (tgt := 208) C eX12_above_40 (by decide) (fun _ => ?_) (fun h => absurd (ix_le (a := k) (b := k) (rfl : nI k = nI k) (rfl : nI k = nI k) (by omega) (by omega) (by omega)) h)
      refine v_pick (lv' := [(0, .ref (ad 49)), (1, .int (nI w)), (2, .long (lN pt)), (4, .int (nI k)), (5, .int (nI num))]) [0, 1, 2, 3, 4] rfl ?_
      have b3 := D_b3 hk d2 d3
      exact ab_E I hN C ho2 hn2 hp2 hk hnum hP2 b3 rfl (Nat.zero_le _) (fun r σ' h => ⟨h.1, by rw [h.2]; exact hk2, by rw [h.2]; exact hn2, by rw [h.2]; exact hp2⟩)
    · intro j hj ih ρ hI
      obtain ⟨hk2, hn2, hp2, hP2⟩ := hI
      have ho2 : ρ 49 = eO 9 (mO ad x t) := (hk2 49 (by decide)).trans ho
      refine v_iload C eX12_above_36 5 rfl ?_
      refine v_iload C eX12_above_38 3 rfl ?_
      refine v_icmp_ge (tgt := 208) C eX12_above_40 (by decide) (fun h => absurd h (ix_nle (a := k) (b := j) (rfl : nI k = nI k) (rfl : nI j = nI j) (by omega) (by omega) (by omega))) (fun _ => ?_)
      have b1 := D_b1 (D := D) (j := j) (by omega) d1 d2
      have b2 := D_b2 (D := D) (j := j) (by omega) d1 d2 d3
      refine ab_S I hN C ho2 hn2 hp2 (p0 := j) hw hpt hP2 b1 (by rw [hD]; exact b2) rfl (fun σ3 h3 => ?_)
      obtain ⟨hk3, hn3, hp3, hP3⟩ := h3
      have ho3 : σ3 49 = eO 9 (mO ad x t) := (hk3 49 (by decide)).trans ho2
      refine v_iinc (lv' := [(0, .ref (ad 49)), (1, .int (nI w)), (2, .long (lN pt)), (4, .int (nI k)), (5, .int (nI num)), (6, .int (nI (j + 1)))]) C eX12_above_202 5 rfl (ix_inc _) (by decide) [1, 2, 3, 4, 5, 0] rfl ?_
      refine v_goto (tgt := 36) C eX12_above_205 (by decide) ?_
      exact ih σ3 ⟨fun k hk => (hk3 k hk).trans (hk2 k hk), hn3, hp3, by rw [hD] at hP3; exact hP3⟩
  · intro j hj ih τ hI
    obtain ⟨hk1, hn1, hp1, hv1⟩ := hI
    have ho1 : τ 49 = eO 9 (mO ad x t) := (hk1 49 (by decide)).trans ho
    refine v_iload C eX12_above_3 5 rfl ?_
    refine v_bipush (v := (16 : Int32)) C eX12_above_5 (by decide) ?_
    refine v_icmp_ge (tgt := 33) C eX12_above_7 (by decide) (fun h => absurd h (ix_nle (a := 16) (b := j) (rfl : (16 : Int32) = nI 16) (rfl : nI j = nI j) (by omega) (by omega) (by omega))) (fun _ => ?_)
    refine v_aload_n C eX12_above_10 rfl 0 rfl ?_
    refine n_get C I fX12_39_X12 eX12_above_11 (hN 49 (by decide)) ho1 rfl ?_
    refine v_iload C eX12_above_14 5 rfl ?_
    refine v_iload C eX12_above_16 5 rfl ?_
    by_cases c0 : j = 0
    · refine v_if_ne (tgt := 25) C eX12_above_18 (by decide) (fun h => absurd (ix_eq (a := j) (b := 0) (rfl : nI j = nI j) (rfl : (0 : Int32) = nI 0) (by omega) (by omega) (by omega)) h) (fun _ => ?_)
      refine v_lconst (v := (1 : Int64)) C eX12_above_21 (by decide) ?_
      refine v_goto (tgt := 26) C eX12_above_22 (by decide) ?_
      refine n_last C I eX12_above_26 (hN 10 (by decide)) hp1 j (rfl : nI j = nI j) (by omega) (by decide) ?_
      refine v_iinc (lv' := [(0, .ref (ad 49)), (1, .int (nI w)), (2, .long (lN pt)), (4, .int (nI k)), (5, .int (nI num)), (6, .int (nI (j + 1)))]) C eX12_above_27 5 rfl (ix_inc _) (by decide) [1, 2, 3, 4, 5, 0] rfl ?_
      refine v_goto (tgt := 3) C eX12_above_30 (by decide) ?_
      refine ih _ ⟨fun k hk => (n_ne (by omega)).trans (hk1 k hk), hn1, by rw [jt_n]; exact n_self, fun i hi => ?_⟩
      rw [jt_n, up_at]
      by_cases e : i = j
      · rw [if_pos e, e]; rw [if_pos c0]; rfl
      · rw [if_neg e]; exact hv1 i (by omega)
    · refine v_if_ne (tgt := 25) C eX12_above_18 (by decide) (fun _ => ?_) (fun h => absurd h (ix_ne (a := j) (b := 0) (rfl : nI j = nI j) (rfl : (0 : Int32) = nI 0) (by omega) (by omega) (by omega)))
      refine v_lconst (v := (0 : Int64)) C eX12_above_25 (by decide) ?_
      refine n_last C I eX12_above_26 (hN 10 (by decide)) hp1 j (rfl : nI j = nI j) (by omega) (by decide) ?_
      refine v_iinc (lv' := [(0, .ref (ad 49)), (1, .int (nI w)), (2, .long (lN pt)), (4, .int (nI k)), (5, .int (nI num)), (6, .int (nI (j + 1)))]) C eX12_above_27 5 rfl (ix_inc _) (by decide) [1, 2, 3, 4, 5, 0] rfl ?_
      refine v_goto (tgt := 3) C eX12_above_30 (by decide) ?_
      refine ih _ ⟨fun k hk => (n_ne (by omega)).trans (hk1 k hk), hn1, by rw [jt_n]; exact n_self, fun i hi => ?_⟩
      rw [jt_n, up_at]
      by_cases e : i = j
      · rw [if_pos e, e]; rw [if_neg c0]; rfl
      · rw [if_neg e]; exact hv1 i (by omega)

end M43
