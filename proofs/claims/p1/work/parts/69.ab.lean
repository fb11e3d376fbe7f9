/-! PURE: numbers by limbs of 16 bits -/
def vl (P : Nat → Nat) : Nat → Nat
  | 0 => 0
  | n + 1 => vl P n + P n * 2 ^ (16 * n)
theorem vl_congr {P Q : Nat → Nat} : ∀ n, (∀ i, i < n → P i = Q i) → vl P n = vl Q n
  | 0, _ => rfl
  | n + 1, h => by
    show vl P n + _ = vl Q n + _
    rw [vl_congr n (fun i hi => h i (by omega)), h n (by omega)]
theorem vl_add {P : Nat → Nat} {m a : Nat} : ∀ n, m < n → vl (fun i => if i = m then P m + a else P i) n = vl P n + a * 2 ^ (16 * m)
  | 0, h => absurd h (Nat.not_lt_zero m)
  | n + 1, h => by
    show vl _ n + (if n = m then P m + a else P n) * 2 ^ (16 * n) = vl P n + P n * 2 ^ (16 * n) + a * 2 ^ (16 * m)
    by_cases q : n = m
    · subst q
      rw [if_pos rfl, vl_congr (Q := P) n (fun i hi => if_neg (by omega)), Nat.add_mul, Nat.add_assoc]
    · rw [if_neg q, vl_add n (by omega)]
      omega
theorem vl_le {P : Nat → Nat} {i : Nat} : ∀ n, i < n → P i * 2 ^ (16 * i) ≤ vl P n
  | 0, h => absurd h (Nat.not_lt_zero i)
  | n + 1, h => by
    show _ ≤ vl P n + P n * 2 ^ (16 * n)
    by_cases q : i = n
    · subst q; omega
    · have := vl_le (P := P) n (show i < n by omega)
      omega
theorem vl_lt {P : Nat → Nat} : ∀ n, (∀ i, i < n → P i < 65536) → vl P n < 2 ^ (16 * n)
  | 0, _ => Nat.one_pos
  | n + 1, h => by
    have h1 := vl_lt n (fun i hi => h i (by omega))
    have h2 := h n (by omega)
    show vl P n + P n * 2 ^ (16 * n) < 2 ^ (16 * (n + 1))
    have h3 : P n * 2 ^ (16 * n) ≤ 65535 * 2 ^ (16 * n) := Nat.mul_le_mul_right _ (by omega)
    rw [show 16 * (n + 1) = 16 * n + 16 by omega, Nat.pow_add]
    omega
theorem vl_hi {P : Nat → Nat} {n m i : Nat} (h : vl P n < 2 ^ (16 * m)) (hi : i < n) (hm : m ≤ i) : P i = 0 := by
  have h1 := vl_le (P := P) n hi
  by_cases q : P i = 0
  · exact q
  · have h2 : 2 ^ (16 * m) ≤ 2 ^ (16 * i) := Nat.pow_le_pow_right (by decide) (by omega)
    have h3 : 1 * 2 ^ (16 * i) ≤ P i * 2 ^ (16 * i) := Nat.mul_le_mul_right _ (by omega)
    omega
theorem vl_split {P : Nat → Nat} {m : Nat} : ∀ n, m ≤ n → (∀ i, m ≤ i → i < n → P i = 0) → vl P n = vl P m
  | 0, h, _ => by rw [show m = 0 by omega]
  | n + 1, h, g => by
    by_cases q : m = n + 1
    · rw [q]
    · show vl P n + P n * 2 ^ (16 * n) = _
      rw [vl_split n (by omega) (fun i h1 h2 => g i h1 (by omega)), g n (by omega) (by omega)]
      omega
/-- the limbs of the number that is raised -/
def dgA (w pt j : Nat) : Nat := if j < 4 then pt / 2 ^ (16 * j) % 65536 else w
theorem dgA_vl {w pt : Nat} (h : pt < 2 ^ 64) : vl (dgA w pt) 5 = w * 2 ^ 64 + pt := by
  have e0 : dgA w pt 0 = pt % 65536 := by unfold dgA; rw [if_pos (by decide)]; simp
  have e1 : dgA w pt 1 = pt / 65536 % 65536 := by unfold dgA; rw [if_pos (by decide)]
  have e2 : dgA w pt 2 = pt / 4294967296 % 65536 := by unfold dgA; rw [if_pos (by decide)]
  have e3 : dgA w pt 3 = pt / 281474976710656 % 65536 := by unfold dgA; rw [if_pos (by decide)]
  have e4 : dgA w pt 4 = w := by unfold dgA; rw [if_neg (by decide)]
  simp only [vl, e0, e1, e2, e3, e4]
  omega
theorem dgA_lt {w pt : Nat} (hw : w ≤ 32) (j : Nat) : dgA w pt j < 65536 := by
  unfold dgA
  split <;> omega
theorem pw_le {D k : Nat} (h : D ≤ 33 * 2 ^ 64) : D ^ k ≤ 33 ^ k * 2 ^ (64 * k) := by
  have := Nat.pow_le_pow_left h k
  rwa [Nat.mul_pow, ← Nat.pow_mul] at this
