/-! digits, neighbours, narrow bytes -/
theorem ix_smod : ∀ j, j < 32 → ((nI j &&& 31).toBitVec.smod 32).toNat = j := by decide
theorem ix_shrV {x y : Int32} {a j : Nat} (hx : x = nI a) (hy : y = nI j) (hj : j < 32) (ha : a < 2 ^ 31) : x >>> (y &&& 31) = nI (a / 2 ^ j) := by subst hx; subst hy; exact pk_shrN ha _ j (ix_smod j hj)
theorem ix_shlV {x y : Int32} {a j : Nat} (hx : x = nI a) (hy : y = nI j) (hj : j < 32) (ha : a * 2 ^ j < 2 ^ 32) : x <<< (y &&& 31) = nI (a * 2 ^ j) := by subst hx; subst hy; exact pk_shlN _ j (ix_smod j hj) ha
theorem ix_xor {x y : Int32} {a b : Nat} (hx : x = nI a) (hy : y = nI b) (ha : a < 2 ^ 31) (hb : b < 2 ^ 31) : x ^^^ y = nI (a ^^^ b) := by
  subst hx; subst hy
  have h1 := pk_tn (n := a) (by omega)
  have h2 := pk_tn (n := b) (by omega)
  have h3 : a ^^^ b < 2 ^ 32 := Nat.xor_lt_two_pow (by omega) (by omega)
  refine Int32.toBitVec_inj.mp (BitVec.eq_of_toNat_eq ?_)
  rw [Int32.toBitVec_xor, BitVec.toNat_xor, h1, h2, pk_tn h3]
theorem ix_and {x m : Int32} {a : Nat} (hx : x = nI a) (k : Nat) (hm : m.toBitVec.toNat = 2 ^ k - 1) (ha : a < 2 ^ 31) : x &&& m = nI (a % 2 ^ k) := by subst hx; exact pk_andN (by omega) k hm
theorem sib_le {i hh j : Nat} (hi : i < 2 ^ hh) (hj : j < hh) : ((i / 2 ^ j) ^^^ 1) + 1 ≤ 2 ^ (hh - j) := by
  have h1 : i / 2 ^ j < 2 ^ (hh - j) := by
    rw [Nat.div_lt_iff_lt_mul (Nat.two_pow_pos j), ← Nat.pow_add, show hh - j + j = hh by omega]
    exact hi
  have h2 : 1 < 2 ^ (hh - j) := Nat.one_lt_two_pow (by omega)
  exact Nat.xor_lt_two_pow h1 h2
theorem sib_b {i hh j : Nat} (hi : i < 2 ^ hh) (hj : j < hh) : (((i / 2 ^ j) ^^^ 1) + 1) * 2 ^ j ≤ 2 ^ hh := by
  have := Nat.mul_le_mul_right (2 ^ j) (sib_le hi hj)
  rwa [← Nat.pow_add, show hh - j + j = hh by omega] at this
/-- bytes as rows hold them -/
def nrw (L : List Int32) : Prop := ∀ v ∈ L, vp_nar .byte v = v
theorem nrw_map {L : List Int32} (h : nrw L) : L.map (vp_nar .byte) = L := by
  have : L.map (vp_nar .byte) = L.map id := List.map_congr_left (fun v hv => h v hv)
  rw [this, List.map_id]
theorem nrw_app {L M : List Int32} (h : nrw L) (g : nrw M) : nrw (L ++ M) := fun v hv => by
  rcases List.mem_append.mp hv with q | q
  · exact h v q
  · exact g v q
theorem nrw_sl {f : Nat → Int32} {a n : Nat} : nrw (sl f a n) ↔ ∀ i, i < n → vp_nar .byte (f (a + i)) = f (a + i) := by
  constructor
  · intro h i hi
    exact h _ (List.mem_map.mpr ⟨i, List.mem_range.mpr hi, rfl⟩)
  · intro h v hv
    obtain ⟨i, hi, rfl⟩ := List.mem_map.mp hv
    exact h i (List.mem_range.mp hi)
theorem nrw_sub {f : Nat → Int32} {a n b m : Nat} (h : nrw (sl f a n)) (h1 : a ≤ b) (h2 : b + m ≤ a + n) : nrw (sl f b m) := by
  rw [nrw_sl] at h ⊢
  intro i hi
  have := h (b - a + i) (by omega)
  rwa [show a + (b - a + i) = b + i by omega] at this
theorem nrw_dgB {k n : Nat} {S : Nat → Int64} : nrw (dgB k S n) := fun v hv => by
  obtain ⟨i, _, rfl⟩ := List.mem_map.mp hv
  show vp_nar .byte (vp_nar .byte _) = _
  rw [pk_vb, pk_vb]
theorem nrw_fF {θ : tT} {sh : Bool} {nn : Nat} {P H : List Int32} (t x y z : Nat) (d : List Int32) : nrw (fF θ sh nn P H t x y z d) := nrw_dgB
/-- the digits of a list of bytes -/
def dgt (d : List Int32) (j : Nat) : Nat := if j % 2 = 0 then (d.getD (j / 2) 0 >>> ((4 : Int32) &&& 31)).toBitVec.toNat % 2 ^ 4 else (d.getD (j / 2) 0).toBitVec.toNat % 2 ^ 4
theorem dgt_15 (d : List Int32) (j : Nat) : dgt d j ≤ 15 := by
  unfold dgt
  split <;> omega
theorem dg_even {f : Nat → Int32} {a nn j : Nat} (h : j % 2 = 0) (hj : j < 2 * nn) : (f (a + j / 2) >>> ((4 : Int32) &&& 31)) &&& 15 = nI (dgt (sl f a nn) j) := by
  unfold dgt
  rw [if_pos h, sl_at (by omega)]
  exact pk_and _ 4 (by decide)
theorem dg_odd {f : Nat → Int32} {a nn j : Nat} (h : ¬ j % 2 = 0) (hj : j < 2 * nn) : f (a + j / 2) &&& 15 = nI (dgt (sl f a nn) j) := by
  unfold dgt
  rw [if_neg h, sl_at (by omega)]
  exact pk_and _ 4 (by decide)
def ckN (d : List Int32) : Nat → Nat
  | 0 => 0
  | m + 1 => ckN d m + (15 - dgt d m)
theorem ckN_le (d : List Int32) : ∀ m, ckN d m ≤ 15 * m
  | 0 => Nat.le_refl 0
  | m + 1 => by
    have := ckN_le d m
    show ckN d m + (15 - dgt d m) ≤ _
    omega
def digL (nn : Nat) (d : List Int32) (j : Nat) : Nat := if j < 2 * nn then dgt d j else if j = 2 * nn then ckN d (2 * nn) / 256 % 16 else if j = 2 * nn + 1 then ckN d (2 * nn) / 16 % 16 else ckN d (2 * nn) % 16
theorem digL_15 (nn : Nat) (d : List Int32) (j : Nat) : digL nn d j ≤ 15 := by
  unfold digL
  have := dgt_15 d j
  split
  · exact this
  · split
    · omega
    · split <;> omega
